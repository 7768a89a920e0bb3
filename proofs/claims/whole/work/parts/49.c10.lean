/-! scales -/
def phs2 (a : Int → Int) (j g : Int) : Nat → Int
  | 0 => 0
  | n + 1 => phs2 a j g n + (if a (11 + (n : Int)) = g then pw a j (n : Int) else 0)
theorem pwo_eq {a : Int → Int} (h : SO a) (j g : Int) : pworths a j (pslices a g) = phs2 a j g (a 3).toNat := by
  unfold pworths
  have : ∀ n, n ≤ (a 3).toNat → pws a j (pslices a g) n = phs2 a j g n := by
    intro n
    induction n with
    | zero => intro _; rfl
    | succ n ih =>
      intro hn
      unfold pws phs2
      rw [ih (by omega), pslices_bit h g (by omega)]
      by_cases hq : a (11 + (n : Int)) = g
      · rw [if_pos hq, if_pos hq, if_pos rfl]
      · rw [if_neg hq, if_neg hq, if_neg (by decide)]
  exact this _ (Nat.le_refl _)
theorem phs2_rg {a : Int → Int} (h : SO a) {j g : Int} (j0 : 0 ≤ j) (j1 : j < 5) : ∀ n : Nat, n ≤ 10 → 0 ≤ phs2 a j g n ∧ phs2 a j g n ≤ 81 * (n : Int) := by
  intro n
  induction n with
  | zero => intro _; exact ⟨Int.le_refl _, Int.le_refl _⟩
  | succ n ih =>
    intro hn
    have h1 := ih (by omega)
    have h2 := pw_rg h j0 j1 (s := (n : Int)) (by omega) (by omega)
    unfold phs2
    split <;> omega
def pln (Sc Wt : Int → Int) (s g sg k : Int) : Int → Int := fun j => if 0 ≤ j ∧ j < 5 * k ∧ j % 5 = g then Sc j + sg * Wt (j / 5 * 10 + s) else Sc j
theorem pln_step {Sc Wt : Int → Int} {s g sg k : Int} (hk : 0 ≤ k) (hg : 0 ≤ g ∧ g < 5) : xup (pln Sc Wt s g sg k) (k * 5 + g) (pln Sc Wt s g sg k (k * 5 + g) + sg * Wt (k * 10 + s)) = pln Sc Wt s g sg (k + 1) := by
  have e1 : pln Sc Wt s g sg k (k * 5 + g) = Sc (k * 5 + g) := if_neg (by omega)
  rw [e1]
  funext j
  unfold xup pln
  by_cases h : j = k * 5 + g
  · subst h
    rw [if_pos rfl, if_pos (by omega), show (k * 5 + g) / 5 = k by omega]
  · rw [if_neg h]
    by_cases h2 : 0 ≤ j ∧ j < 5 * k ∧ j % 5 = g
    · rw [if_pos h2, if_pos (by omega)]
    · rw [if_neg h2, if_neg (by omega)]
def wgk (Sc Wt O F : Int → Int) : Nat → (Int → Int)
  | 0 => xfl Sc 0 25
  | k + 1 => if 0 ≤ O (k : Int) ∧ O (k : Int) < F 4 then pln (wgk Sc Wt O F k) Wt (k : Int) (O (k : Int)) 1 (F 4) else wgk Sc Wt O F k
theorem wgk_val {F Kd Z Tr Lk Wt T O U P Sc : Int → Int} (h : CO F Kd Z Tr Lk Wt T O U P) {j g : Int} (j0 : 0 ≤ j) (j1 : j < F 4) (g0 : 0 ≤ g) (g1 : g < F 4) : ∀ k : Nat, (k : Int) ≤ F 3 → wgk Sc Wt O F k (j * 5 + g) = phs2 (cvw F Kd Z Tr Lk T O U P) j g k := by
  have hg := h.g
  have hn := h.n
  intro k
  induction k with
  | zero => intro _; show xfl Sc 0 25 (j * 5 + g) = 0; unfold xfl; rw [if_pos (by omega)]
  | succ k ih =>
    intro hk
    have h1 := ih (by omega)
    have ho := h.o (s := (k : Int)) (by omega) (by omega)
    unfold wgk phs2
    rw [cvw_o (by omega)]
    by_cases q : O (k : Int) = g
    · rw [if_pos q, if_pos (by omega), ← h1]
      unfold pln
      rw [if_pos (by omega), show (j * 5 + g) / 5 = j by omega, h.w2 j0 j1 (by omega) (by omega), Int.one_mul]
    · rw [if_neg q, Int.add_zero, ← h1]
      split
      · unfold pln; rw [if_neg (by omega)]
      · rfl
theorem wgk_rg {F Kd Z Tr Lk Wt T O U P Sc : Int → Int} (h : CO F Kd Z Tr Lk Wt T O U P) {j g : Int} (j0 : 0 ≤ j) (j1 : j < F 4) (g0 : 0 ≤ g) (g1 : g < F 4) : 0 ≤ wgk Sc Wt O F (F 3).toNat (j * 5 + g) ∧ wgk Sc Wt O F (F 3).toNat (j * 5 + g) ≤ 810 := by
  have hn := h.n
  have hg := h.g
  rw [wgk_val h j0 j1 g0 g1 _ (by omega)]
  have := phs2_rg h.1 (g := g) j0 (by omega) (F 3).toNat (by omega)
  omega
def pany (F : Nat → Bool) : Nat → Nat → Bool
  | 0, _ => false
  | r + 1, i => if F i = true then true else pany F r (i + 1)
theorem pany_pos {F : Nat → Bool} {r i : Nat} (hr : 0 < r) (h : F i = true) : pany F r i = true := by
  obtain ⟨m, rfl⟩ : ∃ m, r = m + 1 := ⟨r - 1, by omega⟩
  rw [pany, if_pos h]
theorem pany_neg {F : Nat → Bool} {r i : Nat} (hr : 0 < r) (h : ¬ F i = true) : pany F r i = pany F (r - 1) (i + 1) := by
  obtain ⟨m, rfl⟩ : ∃ m, r = m + 1 := ⟨r - 1, by omega⟩
  rw [pany, if_neg h]
  rfl
theorem pany_iff {F : Nat → Bool} : ∀ (r i : Nat), pany F r i = true ↔ ∃ j, i ≤ j ∧ j < i + r ∧ F j = true := by
  intro r
  induction r with
  | zero => intro i; constructor
            · intro h; cases h
            · rintro ⟨j, h1, h2, -⟩; omega
  | succ r ih =>
    intro i
    rw [pany]
    by_cases h : F i = true
    · rw [if_pos h]
      exact ⟨fun _ => ⟨i, Nat.le_refl _, by omega, h⟩, fun _ => rfl⟩
    · rw [if_neg h, ih]
      constructor
      · rintro ⟨j, h1, h2, h3⟩; exact ⟨j, by omega, by omega, h3⟩
      · rintro ⟨j, h1, h2, h3⟩
        by_cases q : j = i
        · subst q; exact absurd h3 h
        · exact ⟨j, by omega, by omega, h3⟩
/-- whether a guest envies, by scales -/
def pevs (Sc : Int → Int) (g n : Int) : Bool := pany (fun w => decide (Sc (g * 5 + g) < Sc (g * 5 + (w : Int)))) n.toNat 0
set_option maxRecDepth 8000 in
theorem sg_68_0 {d : Nat} {I : XI} {L : XL} {D : GD} {post : XQ}  {u1 : Int} {u2 : Int} {u3 : Int} (h : xR d 68 es_68 3 [xr (some 23), xi u1, xi u2, xi u3, xt 0] [xi u2, xr (some 10)] I L (gG D) 0 0 post) : xR d 68 es_68 0 [xr (some 23), xi u1, xi u2, xi u3, xt 0] [] I L (gG D) 0 0 post := xW_R (fun k => Nat.beq k 3 || Nat.beq k 8 || Nat.beq k 27) 3 _ _ _ _ _ _ _ _ _ _ _ _ h
set_option maxRecDepth 8000 in
theorem sg_68_4 {d : Nat} {I : XI} {L : XL} {D : GD} {post : XQ}  {u1 : Int} {u2 : Int} {u3 : Int} {w0 : Int} (h : ((-2147483648 ≤ w0 ∧ w0 ≤ 2147483647) ∧ ((¬ w0 = 0 → xR d 68 es_68 8 [xr (some 23), xi u1, xi u2, xi u3, xi (0 : Int)] [] I L (gG D) 0 0 post) ∧ (w0 = 0 → post none I L (gG D))))) : xR d 68 es_68 4 [xr (some 23), xi u1, xi u2, xi u3, xt 0] [xi w0] I L (gG D) 0 0 post := xW_R (fun k => Nat.beq k 3 || Nat.beq k 8 || Nat.beq k 27) 3 _ _ _ _ _ _ _ _ _ _ _ _ h
set_option maxRecDepth 8000 in
theorem w_68 {d : Nat} {I : XI} {L : XL} {D : GD} {post : XQ}   {s : Int} {g : Int} {sg : Int} (hd : 1 ≤ d) (h : (((0 ≤ I 10 (4 : Int) ∧ I 10 (4 : Int) ≤ 5) ∧ (-2147483648 ≤ g ∧ g ≤ 2147483647)) ∧ (((0 ≤ g ∧ g < I 10 (4 : Int) → xR d 68 es_68 8 [xr (some 23), xi s, xi g, xi sg, xi (0 : Int)] [] I L (gG D) 0 0 post) ∧ (¬ (0 ≤ g ∧ g < I 10 (4 : Int)) → post none I L (gG D)))))) : xR d 68 es_68 0 [xr (some 23), xi s, xi g, xi sg, xt 0] [] I L (gG D) 0 0 post := sg_68_0  ((xR_cF rfl rfl rfl (c_9 h.1) (by omega) (sg_68_4  ⟨(xb_rg _), ⟨fun q1958 => (h.2.1 (xb_n0 q1958)), fun q1959 => (h.2.2 (xb_0 q1959))⟩⟩)))
set_option maxRecDepth 8000 in
theorem sg_68_8 {d : Nat} {I : XI} {L : XL} {D : GD} {post : XQ}  {u1 : Int} {u2 : Int} {u3 : Int} {u4 : Int} (h : (((-2147483648 ≤ u4 ∧ u4 ≤ 2147483647) ∧ (-2147483648 ≤ (I 10 (4 : Int)) ∧ (I 10 (4 : Int)) ≤ 2147483647)) ∧ (((I 10 (4 : Int)) ≤ u4 → post none I L (gG D)) ∧ (u4 < (I 10 (4 : Int)) → ((0 ≤ ((u4 * (5 : Int)) + u2) ∧ ((u4 * (5 : Int)) + u2) < (25 : Int)) ∧ xR d 68 es_68 27 [xr (some 23), xi u1, xi u2, xi u3, xi u4] [xi u4, xi u1, xr (some 10), xi u3, xi (I 24 ((u4 * (5 : Int)) + u2)), xi ((u4 * (5 : Int)) + u2), xr (some 24)] I L (gG D) 0 0 post))))) : xR d 68 es_68 8 [xr (some 23), xi u1, xi u2, xi u3, xi u4] [] I L (gG D) 0 0 post := xW_R (fun k => Nat.beq k 3 || Nat.beq k 8 || Nat.beq k 27) 19 _ _ _ _ _ _ _ _ _ _ _ _ h
set_option maxRecDepth 8000 in
theorem sg_68_28 {d : Nat} {I : XI} {L : XL} {D : GD} {post : XQ}  {u1 : Int} {u2 : Int} {u3 : Int} {u4 : Int} {w1 : Int} {w2 : Int} {w3 : Int} {w4 : Int} (h : ((0 ≤ w1 ∧ w1 < (25 : Int)) ∧ xR d 68 es_68 8 [xr (some 23), xi u1, xi u2, xi u3, xi (u4 + (1 : Int))] [] (xwr I 24 w1 (w2 + (w3 * w4))) L (gG D) 0 0 post)) : xR d 68 es_68 28 [xr (some 23), xi u1, xi u2, xi u3, xi u4] [xi w4, xi w3, xi w2, xi w1, xr (some 24)] I L (gG D) 0 0 post := xW_R (fun k => Nat.beq k 3 || Nat.beq k 8 || Nat.beq k 27) 5 _ _ _ _ _ _ _ _ _ _ _ _ h
set_option maxRecDepth 8000 in
theorem b_68 {d : Nat} {I : XI} {L : XL} {D : GD} {post : XQ} {Sc : Int → Int}  {s : Int} {g : Int} {sg : Int} {j0 : Int} (hd : 1 ≤ d) (h : (((-2147483648 ≤ j0 ∧ j0 ≤ 2147483647) ∧ (-2147483648 ≤ (I 10 (4 : Int)) ∧ (I 10 (4 : Int)) ≤ 2147483647)) ∧ (((I 10 (4 : Int)) ≤ j0 → post none (xsc I 24 Sc) L (gG D)) ∧ (j0 < (I 10 (4 : Int)) → (((0 ≤ ((j0 * (5 : Int)) + g) ∧ ((j0 * (5 : Int)) + g) < (25 : Int))) ∧ (((0 ≤ I 10 (3 : Int) ∧ I 10 (3 : Int) ≤ 10) ∧ (0 ≤ I 10 (4 : Int) ∧ I 10 (4 : Int) ≤ 5) ∧ (0 ≤ s ∧ s < I 10 (3 : Int)) ∧ (0 ≤ j0 ∧ j0 < I 10 (4 : Int))) ∧ xR d 68 es_68 8 [xr (some 23), xi s, xi g, xi sg, xi (j0 + (1 : Int))] [] (xsc I 24 (xup Sc ((j0 * (5 : Int)) + g) ((Sc ((j0 * (5 : Int)) + g)) + (sg * (I 15 (j0 * 10 + s)))))) L (gG D) 0 0 post)))))) : xR d 68 es_68 8 [xr (some 23), xi s, xi g, xi sg, xi j0] [] (xsc I 24 Sc) L (gG D) 0 0 post := sg_68_8  (⟨⟨h.1.1, h.1.2⟩, ⟨fun q1960 => (h.2.1 q1960), fun q1961 => ⟨(h.2.2 q1961).1, (xR_cF rfl rfl rfl (c_11 (h.2.2 q1961).2.1) (by omega) (sg_68_28  ⟨(h.2.2 q1961).1, (xR_memc (h.2.2 q1961).2.2 (funext fun i => (xpt rfl (fun h24_ => (by simp only [xsc_ne _ _ h24_, xwr_ne _ _ _ h24_])))) rfl)⟩))⟩⟩⟩)
theorem c_68 {I : XI} {L : XL} {D : GD}   {s : Int} {g : Int} {sg : Int} (h : ((0 ≤ I 10 (3 : Int) ∧ I 10 (3 : Int) ≤ 10) ∧ (0 ≤ I 10 (4 : Int) ∧ I 10 (4 : Int) ≤ 5) ∧ (0 ≤ s ∧ s < I 10 (3 : Int)) ∧ (-2147483648 ≤ g ∧ g ≤ 2147483647))) : xM 1 68 [xr (some 23), xi s, xi g, xi sg] I L (gG D) (0, 0) (xD none (xsc I 24 (if 0 ≤ g ∧ g < I 10 (4 : Int) then pln (I 24) (I 15) s g sg (I 10 (4 : Int)) else (I 24))) L (gG D)) := by
  intro d hd
  obtain ⟨hn, hg, hs, h1⟩ := h
  refine w_68 (by omega) ?_
  by_cases hq : 0 ≤ g ∧ g < I 10 4
  · rw [if_pos hq]
    have key : ∀ k : Nat, k ≤ (I 10 4).toNat → xR d 68 es_68 8 [xr (some 23), xi s, xi g, xi sg, xi (k : Int)] [] (xsc I 24 (pln (I 24) (I 15) s g sg (k : Int))) L (gG D) 0 0 (xD none (xsc I 24 (pln (I 24) (I 15) s g sg (I 10 4))) L (gG D)) := by
      refine xfor ?_ ?_
      · refine b_68 (by omega) ?_
        repeat' first | (with_reducible intro _) | (with_reducible refine And.intro ?_ ?_)
        all_goals first | omega | assumption | skip
        rw [show (((I 10 4).toNat : Nat) : Int) = I 10 4 by omega]
        exact xD_in
      · intro k hk ih 
        have hG : (0 ≤ I 10 3 ∧ I 10 3 ≤ 10) ∧ (0 ≤ I 10 4 ∧ I 10 4 ≤ 5) ∧ (0 ≤ s ∧ s < I 10 3) ∧ (0 ≤ (k : Int) ∧ (k : Int) < I 10 4) := ⟨hn, hg, hs, by omega⟩
        refine b_68 (by omega) ?_
        repeat' first | (with_reducible intro _) | (with_reducible refine And.intro ?_ ?_)
        all_goals first | omega | assumption | skip
        rw [pln_step (by omega) (by omega)]
        exact ih
    repeat' first | (with_reducible intro _) | (with_reducible refine And.intro ?_ ?_)
    all_goals first | omega | exact ⟨hg, by omega⟩ | (exact xR_memc (key 0 (Nat.zero_le _)) (by (funext i; by_cases h24 : i = 24; (subst h24; first | rfl | exact (xcp_zero _ _ _ _).symm | exact (xup_self _ _).symm | exact (xup_self2 _ _ _).symm | exact (xup_self3 _ _ _ _).symm | exact xup_self _ _ | (funext j; exact (if_neg (by show ¬ (0 ≤ j ∧ j < 5 * 0 ∧ j % 5 = g); omega)).symm)); first | rfl | simp only [xsc_ne _ _ h24])) rfl)
  · rw [if_neg hq]
    repeat' first | (with_reducible intro _) | (with_reducible refine And.intro ?_ ?_)
    all_goals first | omega | exact ⟨hg, by omega⟩ | exact xD_eq rfl (xm6 _ _).symm rfl
set_option maxRecDepth 8000 in
theorem sg_70_0 {d : Nat} {I : XI} {L : XL} {D : GD} {post : XQ}  {u1 : Int} (h : xR d 70 es_70 6 [xr (some 23), xi u1, xi (u1 * (5 : Int)), xi (0 : Int)] [] I L (gG D) 0 0 post) : xR d 70 es_70 0 [xr (some 23), xi u1, xt 0, xt 0] [] I L (gG D) 0 0 post := xW_R (fun k => Nat.beq k 6) 6 _ _ _ _ _ _ _ _ _ _ _ _ h
set_option maxRecDepth 8000 in
theorem w_70 {d : Nat} {I : XI} {L : XL} {D : GD} {post : XQ}   {g : Int} (hd : 0 ≤ d) (h : xR d 70 es_70 6 [xr (some 23), xi g, xi (g * (5 : Int)), xi (0 : Int)] [] I L (gG D) 0 0 post) : xR d 70 es_70 0 [xr (some 23), xi g, xt 0, xt 0] [] I L (gG D) 0 0 post := sg_70_0  (h)
set_option maxRecDepth 8000 in
theorem sg_70_6 {d : Nat} {I : XI} {L : XL} {D : GD} {post : XQ}  {u1 : Int} {u2 : Int} {u3 : Int} (h : (((-2147483648 ≤ u3 ∧ u3 ≤ 2147483647) ∧ (-2147483648 ≤ (I 10 (4 : Int)) ∧ (I 10 (4 : Int)) ≤ 2147483647)) ∧ (((I 10 (4 : Int)) ≤ u3 → (((0 : Int) = 0 ∨ (0 : Int) = 1) ∧ post (some (xi (0 : Int))) I L (gG D))) ∧ (u3 < (I 10 (4 : Int)) → ((0 ≤ (u2 + u3) ∧ (u2 + u3) < (25 : Int)) ∧ ((0 ≤ (u2 + u1) ∧ (u2 + u1) < (25 : Int)) ∧ (((-2147483648 ≤ (I 24 (u2 + u3)) ∧ (I 24 (u2 + u3)) ≤ 2147483647) ∧ (-2147483648 ≤ (I 24 (u2 + u1)) ∧ (I 24 (u2 + u1)) ≤ 2147483647)) ∧ (((I 24 (u2 + u3)) ≤ (I 24 (u2 + u1)) → xR d 70 es_70 6 [xr (some 23), xi u1, xi u2, xi (u3 + (1 : Int))] [] I L (gG D) 0 0 post) ∧ ((I 24 (u2 + u1)) < (I 24 (u2 + u3)) → (((1 : Int) = 0 ∨ (1 : Int) = 1) ∧ post (some (xi (1 : Int))) I L (gG D))))))))))) : xR d 70 es_70 6 [xr (some 23), xi u1, xi u2, xi u3] [] I L (gG D) 0 0 post := xW_R (fun k => Nat.beq k 6) 20 _ _ _ _ _ _ _ _ _ _ _ _ h
set_option maxRecDepth 8000 in
theorem b_70 {d : Nat} {I : XI} {L : XL} {D : GD} {post : XQ}   {g : Int} {ro : Int} {w0 : Int} (hd : 0 ≤ d) (h : (((-2147483648 ≤ w0 ∧ w0 ≤ 2147483647) ∧ (-2147483648 ≤ (I 10 (4 : Int)) ∧ (I 10 (4 : Int)) ≤ 2147483647)) ∧ (((I 10 (4 : Int)) ≤ w0 → post (some (xi (0 : Int))) I L (gG D)) ∧ (w0 < (I 10 (4 : Int)) → (((0 ≤ (ro + w0) ∧ (ro + w0) < (25 : Int))) ∧ (((0 ≤ (ro + g) ∧ (ro + g) < (25 : Int))) ∧ (((-2147483648 ≤ (I 24 (ro + w0)) ∧ (I 24 (ro + w0)) ≤ 2147483647) ∧ (-2147483648 ≤ (I 24 (ro + g)) ∧ (I 24 (ro + g)) ≤ 2147483647)) ∧ (((I 24 (ro + w0)) ≤ (I 24 (ro + g)) → xR d 70 es_70 6 [xr (some 23), xi g, xi ro, xi (w0 + (1 : Int))] [] I L (gG D) 0 0 post) ∧ ((I 24 (ro + g)) < (I 24 (ro + w0)) → post (some (xi (1 : Int))) I L (gG D)))))))))) : xR d 70 es_70 6 [xr (some 23), xi g, xi ro, xi w0] [] I L (gG D) 0 0 post := sg_70_6  (⟨⟨h.1.1, h.1.2⟩, ⟨fun q1964 => ⟨(by decide), (h.2.1 q1964)⟩, fun q1965 => ⟨(h.2.2 q1965).1, ⟨(h.2.2 q1965).2.1, ⟨⟨(h.2.2 q1965).2.2.1.1, (h.2.2 q1965).2.2.1.2⟩, ⟨fun q1962 => ((h.2.2 q1965).2.2.2.1 q1962), fun q1963 => ⟨(by decide), ((h.2.2 q1965).2.2.2.2 q1963)⟩⟩⟩⟩⟩⟩⟩)
theorem c_70 {I : XI} {L : XL} {D : GD}   {g : Int} (h : ((0 ≤ I 10 (4 : Int) ∧ I 10 (4 : Int) ≤ 5) ∧ (0 ≤ g ∧ g < I 10 (4 : Int)) ∧ (∀ w, 0 ≤ w → w < I 10 (4 : Int) → 0 ≤ (I 24) (g * 5 + w) ∧ (I 24) (g * 5 + w) ≤ 100000))) : xM 0 70 [xr (some 23), xi g] I L (gG D) (0, 0) (xD (some (xi (xb (pevs (I 24) g (I 10 (4 : Int)) = true)))) I L (gG D)) := by
  intro d hd
  obtain ⟨hg, h1, hr⟩ := h
  have hrg := hr g h1.1 h1.2
  refine w_70 (by omega) ?_
  have key : ∀ k : Nat, k ≤ (I 10 4).toNat → pevs (I 24) g (I 10 4) = pany (fun w => decide (I 24 (g * 5 + g) < I 24 (g * 5 + (w : Int)))) ((I 10 4).toNat - k) k → xR d 70 es_70 6 [xr (some 23), xi g, xi (g * 5), xi (k : Int)] [] I L (gG D) 0 0 (xD (some (xi (xb (pevs (I 24) g (I 10 4) = true)))) I L (gG D)) := by
    refine xfor ?_ ?_
    · intro  hy
      refine b_70 (by omega) ?_
      repeat' first | (with_reducible intro _) | (with_reducible refine And.intro ?_ ?_)
      all_goals first | omega | assumption | skip
      rw [hy, Nat.sub_self, xb_f (by simp [pany])]
      exact xD_in
    · intro k hk ih  hy
      have hrk := hr (k : Int) (by omega) (by omega)
      rw [show (I 10 4).toNat - (k + 1) = (I 10 4).toNat - k - 1 by omega] at ih
      refine b_70 (by omega) ?_
      repeat' first | (with_reducible intro _) | (with_reducible refine And.intro ?_ ?_)
      all_goals first | omega | assumption | skip
      all_goals first
        | (have hq : I 24 (g * 5 + g) < I 24 (g * 5 + (k : Int)) := by assumption
           rw [hy, pany_pos (by omega) (by simp only [decide_eq_true_eq]; exact hq), xb_t rfl]
           exact xD_in)
        | (exact ih (by rw [hy, pany_neg (by omega) (by simp only [decide_eq_true_eq]; omega)]))
  exact key 0 (Nat.zero_le _) rfl
set_option maxRecDepth 8000 in
theorem sg_67_0_16 {d : Nat} {I : XI} {L : XL} {D : GD} {post : XQ}   (h : xR d 67 es_67 3 [xr (some 23), xr (some 16), xt 0] [xi (0 : Int), xr (some 24)] I L (gG D) 0 0 post) : xR d 67 es_67 0 [xr (some 23), xr (some 16), xt 0] [] I L (gG D) 0 0 post := xW_R (fun k => Nat.beq k 3 || Nat.beq k 6 || Nat.beq k 18) 3 _ _ _ _ _ _ _ _ _ _ _ _ h
set_option maxRecDepth 8000 in
theorem sg_67_4_16 {d : Nat} {I : XI} {L : XL} {D : GD} {post : XQ}   (h : xR d 67 es_67 6 [xr (some 23), xr (some 16), xi (0 : Int)] [] I L (gG D) 0 0 post) : xR d 67 es_67 4 [xr (some 23), xr (some 16), xt 0] [] I L (gG D) 0 0 post := xW_R (fun k => Nat.beq k 3 || Nat.beq k 6 || Nat.beq k 18) 2 _ _ _ _ _ _ _ _ _ _ _ _ h
set_option maxRecDepth 8000 in
theorem w_67_16 {d : Nat} {I : XI} {L : XL} {D : GD} {post : XQ}    (hd : 1 ≤ d) (h : xR d 67 es_67 6 [xr (some 23), xr (some 16), xi (0 : Int)] [] (xsc I 24 (xfl (I 24) (0 : Int) 25)) L (gG D) 0 0 post) : xR d 67 es_67 0 [xr (some 23), xr (some 16), xt 0] [] I L (gG D) 0 0 post := sg_67_0_16  ((xR_cF rfl rfl rfl c_262_24 (by omega) (sg_67_4_16  h)))
set_option maxRecDepth 8000 in
theorem sg_67_6_16 {d : Nat} {I : XI} {L : XL} {D : GD} {post : XQ}  {u2 : Int} (h : (((-2147483648 ≤ u2 ∧ u2 ≤ 2147483647) ∧ (-2147483648 ≤ (I 10 (3 : Int)) ∧ (I 10 (3 : Int)) ≤ 2147483647)) ∧ (((I 10 (3 : Int)) ≤ u2 → post none I L (gG D)) ∧ (u2 < (I 10 (3 : Int)) → ((0 ≤ u2 ∧ u2 < (10 : Int)) ∧ xR d 67 es_67 18 [xr (some 23), xr (some 16), xi u2] [xi (1 : Int), xi (I 17 u2), xi u2, xr (some 23)] I L (gG D) 0 0 post))))) : xR d 67 es_67 6 [xr (some 23), xr (some 16), xi u2] [] I L (gG D) 0 0 post := xW_R (fun k => Nat.beq k 3 || Nat.beq k 6 || Nat.beq k 18) 12 _ _ _ _ _ _ _ _ _ _ _ _ h
set_option maxRecDepth 8000 in
theorem sg_67_19_16 {d : Nat} {I : XI} {L : XL} {D : GD} {post : XQ}  {u2 : Int} (h : xR d 67 es_67 6 [xr (some 23), xr (some 16), xi (u2 + (1 : Int))] [] I L (gG D) 0 0 post) : xR d 67 es_67 19 [xr (some 23), xr (some 16), xi u2] [] I L (gG D) 0 0 post := xW_R (fun k => Nat.beq k 3 || Nat.beq k 6 || Nat.beq k 18) 2 _ _ _ _ _ _ _ _ _ _ _ _ h
set_option maxRecDepth 8000 in
theorem b_67_16 {d : Nat} {I : XI} {L : XL} {D : GD} {post : XQ} {Sc : Int → Int}  {s0 : Int} (hd : 2 ≤ d) (h : (((-2147483648 ≤ s0 ∧ s0 ≤ 2147483647) ∧ (-2147483648 ≤ (I 10 (3 : Int)) ∧ (I 10 (3 : Int)) ≤ 2147483647)) ∧ (((I 10 (3 : Int)) ≤ s0 → post none (xsc I 24 Sc) L (gG D)) ∧ (s0 < (I 10 (3 : Int)) → (((0 ≤ s0 ∧ s0 < (10 : Int))) ∧ (((0 ≤ I 10 (3 : Int) ∧ I 10 (3 : Int) ≤ 10) ∧ (0 ≤ I 10 (4 : Int) ∧ I 10 (4 : Int) ≤ 5) ∧ (0 ≤ s0 ∧ s0 < I 10 (3 : Int)) ∧ (-2147483648 ≤ (I 17 s0) ∧ (I 17 s0) ≤ 2147483647)) ∧ xR d 67 es_67 6 [xr (some 23), xr (some 16), xi (s0 + (1 : Int))] [] (xsc I 24 (if 0 ≤ (I 17 s0) ∧ (I 17 s0) < I 10 (4 : Int) then pln Sc (I 15) s0 (I 17 s0) (1 : Int) (I 10 (4 : Int)) else Sc)) L (gG D) 0 0 post)))))) : xR d 67 es_67 6 [xr (some 23), xr (some 16), xi s0] [] (xsc I 24 Sc) L (gG D) 0 0 post := sg_67_6_16  (⟨⟨h.1.1, h.1.2⟩, ⟨fun q1966 => (h.2.1 q1966), fun q1967 => ⟨(h.2.2 q1967).1, (xR_cF rfl rfl rfl (c_68 (h.2.2 q1967).2.1) (by omega) (sg_67_19_16  (xR_memc (h.2.2 q1967).2.2 (funext fun i => (xpt rfl (fun h24_ => (by simp only [xsc_ne _ _ h24_, xwr_ne _ _ _ h24_])))) rfl)))⟩⟩⟩)
theorem c_67_16 {I : XI} {L : XL} {D : GD}    (h : CO (I 10) (I 11) (I 12) (I 13) (I 14) (I 15) (I 16) (I 17) (I 18) (I 111)) : xM 2 67 [xr (some 23), xr (some 16)] I L (gG D) (0, 0) (xD none (xsc I 24 (wgk (I 24) (I 15) (I 17) (I 10) (I 10 (3 : Int)).toNat)) L (gG D)) := by
  intro d hd
  have hC := h
  have hn := hC.n
  have hg := hC.g
  refine w_67_16 (by omega) ?_
  have key : ∀ k : Nat, k ≤ (I 10 3).toNat → xR d 67 es_67 6 [xr (some 23), xr (some 16), xi (k : Int)] [] (xsc I 24 (wgk (I 24) (I 15) (I 17) (I 10) k)) L (gG D) 0 0 (xD none (xsc I 24 (wgk (I 24) (I 15) (I 17) (I 10) (I 10 (3 : Int)).toNat)) L (gG D)) := by
    refine xfor ?_ ?_
    · refine b_67_16 (by omega) ?_
      repeat' first | (with_reducible intro _) | (with_reducible refine And.intro ?_ ?_)
      all_goals first | omega | assumption | skip
      exact xD_in
    · intro k hk ih 
      have ho := hC.o (s := (k : Int)) (by omega) (by omega)
      have hG : (0 ≤ I 10 3 ∧ I 10 3 ≤ 10) ∧ (0 ≤ I 10 4 ∧ I 10 4 ≤ 5) ∧ (0 ≤ (k : Int) ∧ (k : Int) < I 10 3) ∧ (-2147483648 ≤ I 17 (k : Int) ∧ I 17 (k : Int) ≤ 2147483647) := ⟨hn, hg, by omega, by omega⟩
      refine b_67_16 (by omega) ?_
      repeat' first | (with_reducible intro _) | (with_reducible refine And.intro ?_ ?_)
      all_goals first | omega | assumption | skip
      all_goals exact ih
  exact key 0 (Nat.zero_le _)
set_option maxRecDepth 8000 in
theorem sg_67_0_98 {d : Nat} {I : XI} {L : XL} {D : GD} {post : XQ}   (h : xR d 67 es_67 3 [xr (some 23), xr (some 98), xt 0] [xi (0 : Int), xr (some 24)] I L (gG D) 0 0 post) : xR d 67 es_67 0 [xr (some 23), xr (some 98), xt 0] [] I L (gG D) 0 0 post := xW_R (fun k => Nat.beq k 3 || Nat.beq k 6 || Nat.beq k 18) 3 _ _ _ _ _ _ _ _ _ _ _ _ h
set_option maxRecDepth 8000 in
theorem sg_67_4_98 {d : Nat} {I : XI} {L : XL} {D : GD} {post : XQ}   (h : xR d 67 es_67 6 [xr (some 23), xr (some 98), xi (0 : Int)] [] I L (gG D) 0 0 post) : xR d 67 es_67 4 [xr (some 23), xr (some 98), xt 0] [] I L (gG D) 0 0 post := xW_R (fun k => Nat.beq k 3 || Nat.beq k 6 || Nat.beq k 18) 2 _ _ _ _ _ _ _ _ _ _ _ _ h
set_option maxRecDepth 8000 in
theorem w_67_98 {d : Nat} {I : XI} {L : XL} {D : GD} {post : XQ}    (hd : 1 ≤ d) (h : xR d 67 es_67 6 [xr (some 23), xr (some 98), xi (0 : Int)] [] (xsc I 24 (xfl (I 24) (0 : Int) 25)) L (gG D) 0 0 post) : xR d 67 es_67 0 [xr (some 23), xr (some 98), xt 0] [] I L (gG D) 0 0 post := sg_67_0_98  ((xR_cF rfl rfl rfl c_262_24 (by omega) (sg_67_4_98  h)))
set_option maxRecDepth 8000 in
theorem sg_67_6_98 {d : Nat} {I : XI} {L : XL} {D : GD} {post : XQ}  {u2 : Int} (h : (((-2147483648 ≤ u2 ∧ u2 ≤ 2147483647) ∧ (-2147483648 ≤ (I 10 (3 : Int)) ∧ (I 10 (3 : Int)) ≤ 2147483647)) ∧ (((I 10 (3 : Int)) ≤ u2 → post none I L (gG D)) ∧ (u2 < (I 10 (3 : Int)) → ((0 ≤ u2 ∧ u2 < (10 : Int)) ∧ xR d 67 es_67 18 [xr (some 23), xr (some 98), xi u2] [xi (1 : Int), xi (I 99 u2), xi u2, xr (some 23)] I L (gG D) 0 0 post))))) : xR d 67 es_67 6 [xr (some 23), xr (some 98), xi u2] [] I L (gG D) 0 0 post := xW_R (fun k => Nat.beq k 3 || Nat.beq k 6 || Nat.beq k 18) 12 _ _ _ _ _ _ _ _ _ _ _ _ h
set_option maxRecDepth 8000 in
theorem sg_67_19_98 {d : Nat} {I : XI} {L : XL} {D : GD} {post : XQ}  {u2 : Int} (h : xR d 67 es_67 6 [xr (some 23), xr (some 98), xi (u2 + (1 : Int))] [] I L (gG D) 0 0 post) : xR d 67 es_67 19 [xr (some 23), xr (some 98), xi u2] [] I L (gG D) 0 0 post := xW_R (fun k => Nat.beq k 3 || Nat.beq k 6 || Nat.beq k 18) 2 _ _ _ _ _ _ _ _ _ _ _ _ h
set_option maxRecDepth 8000 in
theorem b_67_98 {d : Nat} {I : XI} {L : XL} {D : GD} {post : XQ} {Sc : Int → Int}  {s0 : Int} (hd : 2 ≤ d) (h : (((-2147483648 ≤ s0 ∧ s0 ≤ 2147483647) ∧ (-2147483648 ≤ (I 10 (3 : Int)) ∧ (I 10 (3 : Int)) ≤ 2147483647)) ∧ (((I 10 (3 : Int)) ≤ s0 → post none (xsc I 24 Sc) L (gG D)) ∧ (s0 < (I 10 (3 : Int)) → (((0 ≤ s0 ∧ s0 < (10 : Int))) ∧ (((0 ≤ I 10 (3 : Int) ∧ I 10 (3 : Int) ≤ 10) ∧ (0 ≤ I 10 (4 : Int) ∧ I 10 (4 : Int) ≤ 5) ∧ (0 ≤ s0 ∧ s0 < I 10 (3 : Int)) ∧ (-2147483648 ≤ (I 99 s0) ∧ (I 99 s0) ≤ 2147483647)) ∧ xR d 67 es_67 6 [xr (some 23), xr (some 98), xi (s0 + (1 : Int))] [] (xsc I 24 (if 0 ≤ (I 99 s0) ∧ (I 99 s0) < I 10 (4 : Int) then pln Sc (I 15) s0 (I 99 s0) (1 : Int) (I 10 (4 : Int)) else Sc)) L (gG D) 0 0 post)))))) : xR d 67 es_67 6 [xr (some 23), xr (some 98), xi s0] [] (xsc I 24 Sc) L (gG D) 0 0 post := sg_67_6_98  (⟨⟨h.1.1, h.1.2⟩, ⟨fun q1968 => (h.2.1 q1968), fun q1969 => ⟨(h.2.2 q1969).1, (xR_cF rfl rfl rfl (c_68 (h.2.2 q1969).2.1) (by omega) (sg_67_19_98  (xR_memc (h.2.2 q1969).2.2 (funext fun i => (xpt rfl (fun h24_ => (by simp only [xsc_ne _ _ h24_, xwr_ne _ _ _ h24_])))) rfl)))⟩⟩⟩)
theorem c_67_98 {I : XI} {L : XL} {D : GD}    (h : CO (I 10) (I 11) (I 12) (I 13) (I 14) (I 15) (I 98) (I 99) (I 100) (I 111)) : xM 2 67 [xr (some 23), xr (some 98)] I L (gG D) (0, 0) (xD none (xsc I 24 (wgk (I 24) (I 15) (I 99) (I 10) (I 10 (3 : Int)).toNat)) L (gG D)) := by
  intro d hd
  have hC := h
  have hn := hC.n
  have hg := hC.g
  refine w_67_98 (by omega) ?_
  have key : ∀ k : Nat, k ≤ (I 10 3).toNat → xR d 67 es_67 6 [xr (some 23), xr (some 98), xi (k : Int)] [] (xsc I 24 (wgk (I 24) (I 15) (I 99) (I 10) k)) L (gG D) 0 0 (xD none (xsc I 24 (wgk (I 24) (I 15) (I 99) (I 10) (I 10 (3 : Int)).toNat)) L (gG D)) := by
    refine xfor ?_ ?_
    · refine b_67_98 (by omega) ?_
      repeat' first | (with_reducible intro _) | (with_reducible refine And.intro ?_ ?_)
      all_goals first | omega | assumption | skip
      exact xD_in
    · intro k hk ih 
      have ho := hC.o (s := (k : Int)) (by omega) (by omega)
      have hG : (0 ≤ I 10 3 ∧ I 10 3 ≤ 10) ∧ (0 ≤ I 10 4 ∧ I 10 4 ≤ 5) ∧ (0 ≤ (k : Int) ∧ (k : Int) < I 10 3) ∧ (-2147483648 ≤ I 99 (k : Int) ∧ I 99 (k : Int) ≤ 2147483647) := ⟨hn, hg, by omega, by omega⟩
      refine b_67_98 (by omega) ?_
      repeat' first | (with_reducible intro _) | (with_reducible refine And.intro ?_ ?_)
      all_goals first | omega | assumption | skip
      all_goals exact ih
  exact key 0 (Nat.zero_le _)
def pevb (a : Int → Int) (g : Int) : Nat → Bool
  | 0 => false
  | n + 1 => pevb a g n || decide (phas a g < pworths a g (pslices a (n : Int)))
theorem pevb_iff {a : Int → Int} {g : Int} : ∀ n : Nat, pevb a g n = true ↔ ∃ j : Nat, j < n ∧ phas a g < pworths a g (pslices a (j : Int)) := by
  intro n
  induction n with
  | zero => constructor
            · intro h; cases h
            · rintro ⟨j, h1, -⟩; omega
  | succ n ih =>
    rw [pevb, Bool.or_eq_true, ih, decide_eq_true_eq]
    constructor
    · rintro (⟨j, h1, h2⟩ | h)
      · exact ⟨j, by omega, h2⟩
      · exact ⟨n, by omega, h⟩
    · rintro ⟨j, h1, h2⟩
      by_cases q : j = n
      · subst q; exact Or.inr h2
      · exact Or.inl ⟨j, by omega, h2⟩
theorem xior_idem {a b : Int} (ha : 0 ≤ a ∧ a < 1024) (hb : 0 ≤ b ∧ b < 1024) : xior (xior a b) b = xior a b := by
  have e := xior_n a.toNat b.toNat (by omega) (by omega)
  rw [Int.toNat_of_nonneg ha.1, Int.toNat_of_nonneg hb.1] at e
  have h1 := Nat.or_lt_two_pow (n := 10) (x := a.toNat) (y := b.toNat) (by omega) (by omega)
  have e2 := xior_n (a.toNat ||| b.toNat) b.toNat (by omega) (by omega)
  rw [Int.toNat_of_nonneg hb.1, Nat.or_assoc, Nat.or_self, ← e] at e2
  exact e2
theorem pen1_eq {a : Int → Int} {g set : Int} (hs : 0 ≤ set ∧ set < 1024) (g0 : 0 ≤ g) (g1 : g < 10) : ∀ n : Nat, pen1 a g n set = if pevb a g n = true then xior set (xshl 1 g) else set := by
  intro n
  induction n with
  | zero => rfl
  | succ n ih =>
    unfold pen1 pevb
    rw [ih]
    simp only [Bool.or_eq_true, decide_eq_true_eq]
    by_cases h1 : pevb a g n = true
    · rw [if_pos h1, if_pos (Or.inl h1), xior_idem hs (xshl_rgp g0 g1)]
      split <;> rfl
    · rw [if_neg h1]
      by_cases h2 : phas a g < pworths a g (pslices a (n : Int))
      · rw [if_pos h2, if_pos (Or.inr h2)]
      · rw [if_neg h2, if_neg (fun q => q.elim h1 h2)]
theorem pev_eq {F Kd Z Tr Lk Wt T O U P Sc : Int → Int} (h : CO F Kd Z Tr Lk Wt T O U P) {g : Int} (g0 : 0 ≤ g) (g1 : g < F 4) : pevs (wgk Sc Wt O F (F 3).toNat) g (F 4) = pevb (cvw F Kd Z Tr Lk T O U P) g (F 4).toNat := by
  have hn := h.n
  have hg := h.g
  rw [Bool.eq_iff_iff]
  unfold pevs
  rw [pany_iff, pevb_iff]
  have e : ∀ w : Nat, w < (F 4).toNat → ((decide (wgk Sc Wt O F (F 3).toNat (g * 5 + g) < wgk Sc Wt O F (F 3).toNat (g * 5 + (w : Int)))) = true ↔ phas (cvw F Kd Z Tr Lk T O U P) g < pworths (cvw F Kd Z Tr Lk T O U P) g (pslices (cvw F Kd Z Tr Lk T O U P) (w : Int))) := by
    intro w hw
    rw [decide_eq_true_eq, wgk_val h g0 g1 g0 g1 _ (by omega), wgk_val h g0 g1 (by omega) (by omega) _ (by omega)]
    unfold phas
    rw [pwo_eq h.1, pwo_eq h.1]
    exact Iff.rfl
  constructor
  · rintro ⟨j, h1, h2, h3⟩; exact ⟨j, by omega, (e j (by omega)).mp h3⟩
  · rintro ⟨j, h1, h2⟩; exact ⟨j, by omega, by omega, (e j h1).mpr h2⟩
set_option maxRecDepth 8000 in
theorem sg_66_0_16 {d : Nat} {I : XI} {L : XL} {D : GD} {post : XQ}   (h : xR d 66 es_66 2 [xr (some 23), xr (some 16), xt 0, xt 0] [xr (some 16), xr (some 23)] I L (gG D) 0 0 post) : xR d 66 es_66 0 [xr (some 23), xr (some 16), xt 0, xt 0] [] I L (gG D) 0 0 post := xW_R (fun k => Nat.beq k 2 || Nat.beq k 7 || Nat.beq k 14) 2 _ _ _ _ _ _ _ _ _ _ _ _ h
set_option maxRecDepth 8000 in
theorem sg_66_3_16 {d : Nat} {I : XI} {L : XL} {D : GD} {post : XQ}   (h : xR d 66 es_66 7 [xr (some 23), xr (some 16), xi (0 : Int), xi (0 : Int)] [] I L (gG D) 0 0 post) : xR d 66 es_66 3 [xr (some 23), xr (some 16), xt 0, xt 0] [] I L (gG D) 0 0 post := xW_R (fun k => Nat.beq k 2 || Nat.beq k 7 || Nat.beq k 14) 4 _ _ _ _ _ _ _ _ _ _ _ _ h
set_option maxRecDepth 8000 in
theorem w_66_16 {d : Nat} {I : XI} {L : XL} {D : GD} {post : XQ}    (hd : 3 ≤ d) (h : (CO (I 10) (I 11) (I 12) (I 13) (I 14) (I 15) (I 16) (I 17) (I 18) (I 111) ∧ xR d 66 es_66 7 [xr (some 23), xr (some 16), xi (0 : Int), xi (0 : Int)] [] (xsc I 24 (wgk (I 24) (I 15) (I 17) (I 10) (I 10 (3 : Int)).toNat)) L (gG D) 0 0 post)) : xR d 66 es_66 0 [xr (some 23), xr (some 16), xt 0, xt 0] [] I L (gG D) 0 0 post := sg_66_0_16  ((xR_cF rfl rfl rfl (c_67_16 h.1) (by omega) (sg_66_3_16  h.2)))
set_option maxRecDepth 8000 in
theorem sg_66_7_16 {d : Nat} {I : XI} {L : XL} {D : GD} {post : XQ}  {u2 : Int} {u3 : Int} (h : (((-2147483648 ≤ u3 ∧ u3 ≤ 2147483647) ∧ (-2147483648 ≤ (I 10 (4 : Int)) ∧ (I 10 (4 : Int)) ≤ 2147483647)) ∧ (((I 10 (4 : Int)) ≤ u3 → post (some (xi u2)) I L (gG D)) ∧ (u3 < (I 10 (4 : Int)) → xR d 66 es_66 14 [xr (some 23), xr (some 16), xi u2, xi u3] [xi u3, xr (some 23)] I L (gG D) 0 0 post)))) : xR d 66 es_66 7 [xr (some 23), xr (some 16), xi u2, xi u3] [] I L (gG D) 0 0 post := xW_R (fun k => Nat.beq k 2 || Nat.beq k 7 || Nat.beq k 14) 7 _ _ _ _ _ _ _ _ _ _ _ _ h
set_option maxRecDepth 8000 in
theorem sg_66_15_16 {d : Nat} {I : XI} {L : XL} {D : GD} {post : XQ}  {u2 : Int} {u3 : Int} {w0 : Int} (h : ((-2147483648 ≤ w0 ∧ w0 ≤ 2147483647) ∧ ((w0 = 0 → xR d 66 es_66 7 [xr (some 23), xr (some 16), xi u2, xi (u3 + (1 : Int))] [] I L (gG D) 0 0 post) ∧ (¬ w0 = 0 → xR d 66 es_66 7 [xr (some 23), xr (some 16), xi (xior u2 (xshl (1 : Int) u3)), xi (u3 + (1 : Int))] [] I L (gG D) 0 0 post)))) : xR d 66 es_66 15 [xr (some 23), xr (some 16), xi u2, xi u3] [xi w0] I L (gG D) 0 0 post := xW_R (fun k => Nat.beq k 2 || Nat.beq k 7 || Nat.beq k 14) 9 _ _ _ _ _ _ _ _ _ _ _ _ h
set_option maxRecDepth 8000 in
theorem b_66_16 {d : Nat} {I : XI} {L : XL} {D : GD} {post : XQ} {Sc : Int → Int}  {sv : Int} {g : Int} (hd : 1 ≤ d) (h : (((-2147483648 ≤ g ∧ g ≤ 2147483647) ∧ (-2147483648 ≤ (I 10 (4 : Int)) ∧ (I 10 (4 : Int)) ≤ 2147483647)) ∧ (((I 10 (4 : Int)) ≤ g → post (some (xi sv)) (xsc I 24 Sc) L (gG D)) ∧ (g < (I 10 (4 : Int)) → (((0 ≤ I 10 (4 : Int) ∧ I 10 (4 : Int) ≤ 5) ∧ (0 ≤ g ∧ g < I 10 (4 : Int)) ∧ (∀ w, 0 ≤ w → w < I 10 (4 : Int) → 0 ≤ Sc (g * 5 + w) ∧ Sc (g * 5 + w) ≤ 100000)) ∧ (((¬ (pevs Sc g (I 10 (4 : Int)) = true) → xR d 66 es_66 7 [xr (some 23), xr (some 16), xi sv, xi (g + (1 : Int))] [] (xsc I 24 Sc) L (gG D) 0 0 post) ∧ (pevs Sc g (I 10 (4 : Int)) = true → xR d 66 es_66 7 [xr (some 23), xr (some 16), xi (xior sv (xshl (1 : Int) g)), xi (g + (1 : Int))] [] (xsc I 24 Sc) L (gG D) 0 0 post)))))))) : xR d 66 es_66 7 [xr (some 23), xr (some 16), xi sv, xi g] [] (xsc I 24 Sc) L (gG D) 0 0 post := sg_66_7_16  (⟨⟨h.1.1, h.1.2⟩, ⟨fun q1972 => (h.2.1 q1972), fun q1973 => (xR_cF rfl rfl rfl (c_70 (h.2.2 q1973).1) (by omega) (sg_66_15_16  ⟨(xb_rg _), ⟨fun q1970 => ((h.2.2 q1973).2.1 (xb_0 q1970)), fun q1971 => ((h.2.2 q1973).2.2 (xb_n0 q1971))⟩⟩))⟩⟩)
theorem c_66_16 {I : XI} {L : XL} {D : GD}    (h : CO (I 10) (I 11) (I 12) (I 13) (I 14) (I 15) (I 16) (I 17) (I 18) (I 111)) : xM 3 66 [xr (some 23), xr (some 16)] I L (gG D) (0, 0) (xD (some (xi (qenvy (cvw (I 10) (I 11) (I 12) (I 13) (I 14) (I 16) (I 17) (I 18) (I 111))))) (xsc I 24 (wgk (I 24) (I 15) (I 17) (I 10) (I 10 (3 : Int)).toNat)) L (gG D)) := by
  intro d hd
  have hC := h
  have hn := hC.n
  have hg := hC.g
  refine w_66_16 (by omega) ?_
  refine ⟨hC, ?_⟩
  have hI : ∀ c, c ≠ 24 → xsc I 24 (wgk (I 24) (I 15) (I 17) (I 10) (I 10 3).toNat) c = I c := fun c hc => xsc_ne _ _ hc
  have key : ∀ k : Nat, k ≤ (I 10 4).toNat → xR d 66 es_66 7 [xr (some 23), xr (some 16), xi (peno (cvw (I 10) (I 11) (I 12) (I 13) (I 14) (I 16) (I 17) (I 18) (I 111)) k), xi (k : Int)] [] (xsc I 24 (wgk (I 24) (I 15) (I 17) (I 10) (I 10 (3 : Int)).toNat)) L (gG D) 0 0 (xD (some (xi (qenvy (cvw (I 10) (I 11) (I 12) (I 13) (I 14) (I 16) (I 17) (I 18) (I 111))))) (xsc I 24 (wgk (I 24) (I 15) (I 17) (I 10) (I 10 (3 : Int)).toNat)) L (gG D)) := by
    refine xfor ?_ ?_
    · refine b_66_16 (by omega) ?_
      repeat' first | (with_reducible intro _) | (with_reducible refine And.intro ?_ ?_)
      all_goals first | omega | assumption | skip
      exact xD_in
    · intro k hk ih 
      have hr := fun w (w0 : 0 ≤ w) (w1 : w < I 10 4) => wgk_rg (Sc := I 24) hC (j := (k : Int)) (g := w) (by omega) (by omega) w0 w1
      have hG : (0 ≤ I 10 4 ∧ I 10 4 ≤ 5) ∧ (0 ≤ (k : Int) ∧ (k : Int) < I 10 4) ∧ (∀ w, 0 ≤ w → w < I 10 4 → 0 ≤ (wgk (I 24) (I 15) (I 17) (I 10) (I 10 3).toNat) ((k : Int) * 5 + w) ∧ (wgk (I 24) (I 15) (I 17) (I 10) (I 10 3).toNat) ((k : Int) * 5 + w) ≤ 100000) := ⟨hg, by omega, fun w w0 w1 => by have := hr w w0 w1; omega⟩
      have hgo := hG.2.2
      have hp := peno_rg (cvw (I 10) (I 11) (I 12) (I 13) (I 14) (I 16) (I 17) (I 18) (I 111)) k (by omega)
      have e : peno (cvw (I 10) (I 11) (I 12) (I 13) (I 14) (I 16) (I 17) (I 18) (I 111)) (k + 1) = if pevb (cvw (I 10) (I 11) (I 12) (I 13) (I 14) (I 16) (I 17) (I 18) (I 111)) (k : Int) (I 10 4).toNat = true then xior (peno (cvw (I 10) (I 11) (I 12) (I 13) (I 14) (I 16) (I 17) (I 18) (I 111)) k) (xshl 1 (k : Int)) else peno (cvw (I 10) (I 11) (I 12) (I 13) (I 14) (I 16) (I 17) (I 18) (I 111)) k := pen1_eq hp (by omega) (by omega) _
      rw [← pev_eq (Sc := I 24) hC (by omega) (by omega)] at e
      refine b_66_16 (by omega) ?_
      refine ⟨by omega, fun h => absurd h (by omega), fun _ => ⟨hG, ?_⟩⟩
      repeat' first | (with_reducible intro _) | (with_reducible refine And.intro ?_ ?_)
      all_goals first | omega | assumption | skip
      all_goals first | (rw [if_pos (by assumption)] at e; rw [e] at ih; exact ih) | (rw [if_neg (by assumption)] at e; rw [e] at ih; exact ih)
  exact key 0 (Nat.zero_le _)
set_option maxRecDepth 8000 in
theorem sg_66_0_98 {d : Nat} {I : XI} {L : XL} {D : GD} {post : XQ}   (h : xR d 66 es_66 2 [xr (some 23), xr (some 98), xt 0, xt 0] [xr (some 98), xr (some 23)] I L (gG D) 0 0 post) : xR d 66 es_66 0 [xr (some 23), xr (some 98), xt 0, xt 0] [] I L (gG D) 0 0 post := xW_R (fun k => Nat.beq k 2 || Nat.beq k 7 || Nat.beq k 14) 2 _ _ _ _ _ _ _ _ _ _ _ _ h
set_option maxRecDepth 8000 in
theorem sg_66_3_98 {d : Nat} {I : XI} {L : XL} {D : GD} {post : XQ}   (h : xR d 66 es_66 7 [xr (some 23), xr (some 98), xi (0 : Int), xi (0 : Int)] [] I L (gG D) 0 0 post) : xR d 66 es_66 3 [xr (some 23), xr (some 98), xt 0, xt 0] [] I L (gG D) 0 0 post := xW_R (fun k => Nat.beq k 2 || Nat.beq k 7 || Nat.beq k 14) 4 _ _ _ _ _ _ _ _ _ _ _ _ h
set_option maxRecDepth 8000 in
theorem w_66_98 {d : Nat} {I : XI} {L : XL} {D : GD} {post : XQ}    (hd : 3 ≤ d) (h : (CO (I 10) (I 11) (I 12) (I 13) (I 14) (I 15) (I 98) (I 99) (I 100) (I 111) ∧ xR d 66 es_66 7 [xr (some 23), xr (some 98), xi (0 : Int), xi (0 : Int)] [] (xsc I 24 (wgk (I 24) (I 15) (I 99) (I 10) (I 10 (3 : Int)).toNat)) L (gG D) 0 0 post)) : xR d 66 es_66 0 [xr (some 23), xr (some 98), xt 0, xt 0] [] I L (gG D) 0 0 post := sg_66_0_98  ((xR_cF rfl rfl rfl (c_67_98 h.1) (by omega) (sg_66_3_98  h.2)))
set_option maxRecDepth 8000 in
theorem sg_66_7_98 {d : Nat} {I : XI} {L : XL} {D : GD} {post : XQ}  {u2 : Int} {u3 : Int} (h : (((-2147483648 ≤ u3 ∧ u3 ≤ 2147483647) ∧ (-2147483648 ≤ (I 10 (4 : Int)) ∧ (I 10 (4 : Int)) ≤ 2147483647)) ∧ (((I 10 (4 : Int)) ≤ u3 → post (some (xi u2)) I L (gG D)) ∧ (u3 < (I 10 (4 : Int)) → xR d 66 es_66 14 [xr (some 23), xr (some 98), xi u2, xi u3] [xi u3, xr (some 23)] I L (gG D) 0 0 post)))) : xR d 66 es_66 7 [xr (some 23), xr (some 98), xi u2, xi u3] [] I L (gG D) 0 0 post := xW_R (fun k => Nat.beq k 2 || Nat.beq k 7 || Nat.beq k 14) 7 _ _ _ _ _ _ _ _ _ _ _ _ h
set_option maxRecDepth 8000 in
theorem sg_66_15_98 {d : Nat} {I : XI} {L : XL} {D : GD} {post : XQ}  {u2 : Int} {u3 : Int} {w0 : Int} (h : ((-2147483648 ≤ w0 ∧ w0 ≤ 2147483647) ∧ ((w0 = 0 → xR d 66 es_66 7 [xr (some 23), xr (some 98), xi u2, xi (u3 + (1 : Int))] [] I L (gG D) 0 0 post) ∧ (¬ w0 = 0 → xR d 66 es_66 7 [xr (some 23), xr (some 98), xi (xior u2 (xshl (1 : Int) u3)), xi (u3 + (1 : Int))] [] I L (gG D) 0 0 post)))) : xR d 66 es_66 15 [xr (some 23), xr (some 98), xi u2, xi u3] [xi w0] I L (gG D) 0 0 post := xW_R (fun k => Nat.beq k 2 || Nat.beq k 7 || Nat.beq k 14) 9 _ _ _ _ _ _ _ _ _ _ _ _ h
set_option maxRecDepth 8000 in
theorem b_66_98 {d : Nat} {I : XI} {L : XL} {D : GD} {post : XQ} {Sc : Int → Int}  {sv : Int} {g : Int} (hd : 1 ≤ d) (h : (((-2147483648 ≤ g ∧ g ≤ 2147483647) ∧ (-2147483648 ≤ (I 10 (4 : Int)) ∧ (I 10 (4 : Int)) ≤ 2147483647)) ∧ (((I 10 (4 : Int)) ≤ g → post (some (xi sv)) (xsc I 24 Sc) L (gG D)) ∧ (g < (I 10 (4 : Int)) → (((0 ≤ I 10 (4 : Int) ∧ I 10 (4 : Int) ≤ 5) ∧ (0 ≤ g ∧ g < I 10 (4 : Int)) ∧ (∀ w, 0 ≤ w → w < I 10 (4 : Int) → 0 ≤ Sc (g * 5 + w) ∧ Sc (g * 5 + w) ≤ 100000)) ∧ (((¬ (pevs Sc g (I 10 (4 : Int)) = true) → xR d 66 es_66 7 [xr (some 23), xr (some 98), xi sv, xi (g + (1 : Int))] [] (xsc I 24 Sc) L (gG D) 0 0 post) ∧ (pevs Sc g (I 10 (4 : Int)) = true → xR d 66 es_66 7 [xr (some 23), xr (some 98), xi (xior sv (xshl (1 : Int) g)), xi (g + (1 : Int))] [] (xsc I 24 Sc) L (gG D) 0 0 post)))))))) : xR d 66 es_66 7 [xr (some 23), xr (some 98), xi sv, xi g] [] (xsc I 24 Sc) L (gG D) 0 0 post := sg_66_7_98  (⟨⟨h.1.1, h.1.2⟩, ⟨fun q1976 => (h.2.1 q1976), fun q1977 => (xR_cF rfl rfl rfl (c_70 (h.2.2 q1977).1) (by omega) (sg_66_15_98  ⟨(xb_rg _), ⟨fun q1974 => ((h.2.2 q1977).2.1 (xb_0 q1974)), fun q1975 => ((h.2.2 q1977).2.2 (xb_n0 q1975))⟩⟩))⟩⟩)
theorem c_66_98 {I : XI} {L : XL} {D : GD}    (h : CO (I 10) (I 11) (I 12) (I 13) (I 14) (I 15) (I 98) (I 99) (I 100) (I 111)) : xM 3 66 [xr (some 23), xr (some 98)] I L (gG D) (0, 0) (xD (some (xi (qenvy (cvw (I 10) (I 11) (I 12) (I 13) (I 14) (I 98) (I 99) (I 100) (I 111))))) (xsc I 24 (wgk (I 24) (I 15) (I 99) (I 10) (I 10 (3 : Int)).toNat)) L (gG D)) := by
  intro d hd
  have hC := h
  have hn := hC.n
  have hg := hC.g
  refine w_66_98 (by omega) ?_
  refine ⟨hC, ?_⟩
  have hI : ∀ c, c ≠ 24 → xsc I 24 (wgk (I 24) (I 15) (I 99) (I 10) (I 10 3).toNat) c = I c := fun c hc => xsc_ne _ _ hc
  have key : ∀ k : Nat, k ≤ (I 10 4).toNat → xR d 66 es_66 7 [xr (some 23), xr (some 98), xi (peno (cvw (I 10) (I 11) (I 12) (I 13) (I 14) (I 98) (I 99) (I 100) (I 111)) k), xi (k : Int)] [] (xsc I 24 (wgk (I 24) (I 15) (I 99) (I 10) (I 10 (3 : Int)).toNat)) L (gG D) 0 0 (xD (some (xi (qenvy (cvw (I 10) (I 11) (I 12) (I 13) (I 14) (I 98) (I 99) (I 100) (I 111))))) (xsc I 24 (wgk (I 24) (I 15) (I 99) (I 10) (I 10 (3 : Int)).toNat)) L (gG D)) := by
    refine xfor ?_ ?_
    · refine b_66_98 (by omega) ?_
      repeat' first | (with_reducible intro _) | (with_reducible refine And.intro ?_ ?_)
      all_goals first | omega | assumption | skip
      exact xD_in
    · intro k hk ih 
      have hr := fun w (w0 : 0 ≤ w) (w1 : w < I 10 4) => wgk_rg (Sc := I 24) hC (j := (k : Int)) (g := w) (by omega) (by omega) w0 w1
      have hG : (0 ≤ I 10 4 ∧ I 10 4 ≤ 5) ∧ (0 ≤ (k : Int) ∧ (k : Int) < I 10 4) ∧ (∀ w, 0 ≤ w → w < I 10 4 → 0 ≤ (wgk (I 24) (I 15) (I 99) (I 10) (I 10 3).toNat) ((k : Int) * 5 + w) ∧ (wgk (I 24) (I 15) (I 99) (I 10) (I 10 3).toNat) ((k : Int) * 5 + w) ≤ 100000) := ⟨hg, by omega, fun w w0 w1 => by have := hr w w0 w1; omega⟩
      have hgo := hG.2.2
      have hp := peno_rg (cvw (I 10) (I 11) (I 12) (I 13) (I 14) (I 98) (I 99) (I 100) (I 111)) k (by omega)
      have e : peno (cvw (I 10) (I 11) (I 12) (I 13) (I 14) (I 98) (I 99) (I 100) (I 111)) (k + 1) = if pevb (cvw (I 10) (I 11) (I 12) (I 13) (I 14) (I 98) (I 99) (I 100) (I 111)) (k : Int) (I 10 4).toNat = true then xior (peno (cvw (I 10) (I 11) (I 12) (I 13) (I 14) (I 98) (I 99) (I 100) (I 111)) k) (xshl 1 (k : Int)) else peno (cvw (I 10) (I 11) (I 12) (I 13) (I 14) (I 98) (I 99) (I 100) (I 111)) k := pen1_eq hp (by omega) (by omega) _
      rw [← pev_eq (Sc := I 24) hC (by omega) (by omega)] at e
      refine b_66_98 (by omega) ?_
      refine ⟨by omega, fun h => absurd h (by omega), fun _ => ⟨hG, ?_⟩⟩
      repeat' first | (with_reducible intro _) | (with_reducible refine And.intro ?_ ?_)
      all_goals first | omega | assumption | skip
      all_goals first | (rw [if_pos (by assumption)] at e; rw [e] at ih; exact ih) | (rw [if_neg (by assumption)] at e; rw [e] at ih; exact ih)
  exact key 0 (Nat.zero_le _)
