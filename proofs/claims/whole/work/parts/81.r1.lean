/-! round: the reference -/
def pus (p : Int → Int) (g : Int) (k : Nat) : Bool := pany (fun i => decide (p (i : Int) = g)) k 0
def pset (p : Int → Int) : Nat → Int
  | 0 => 0
  | k + 1 => xior (pset p k) (xshl 1 (p (k : Int)))
def pum (p : Int → Int) (k : Nat) : Int := pbits (pset p k)
def pird (p : Int → Int) (k : Nat) : Bool := pany (fun i => decide (p (i : Int) = p 0 ∧ ¬ p ((i : Int) - 1) = p 0)) (k - 1) 1
def pcan (G4 : Int) (p : Int → Int) (k : Int) : Bool := decide (k = 0 ∨ p k = p (k - 1) ∨ (¬ pird p k.toNat = true ∧ (¬ pus p (p k) k.toNat = true ∨ (p k = p 0 ∧ pum p k.toNat = G4))))
def psm (a p : Int → Int) (g : Int) : Nat → Int
  | 0 => 0
  | n + 1 => psm a p g n + (if p (n : Int) = g then pw a g (n : Int) else 0)
def plst (a p : Int → Int) : Nat → Int
  | 0 => -1
  | g + 1 => if plst a p g < 0 ∨ psm a p (g : Int) (a 3).toNat < plst a p g then psm a p (g : Int) (a 3).toNat else plst a p g
def rkp (a p : Int → Int) (st : Int × (Int → Int)) : Int × (Int → Int) := if plst a p (a 4).toNat ≤ st.1 then st else (plst a p (a 4).toNat, xcp p st.2 0 0 (a 3))
def rcf (a : Int → Int) : Nat → (Int → Int) → Int × (Int → Int) → Int × (Int → Int)
  | 0, p, st => if pum p (a 3).toNat = a 4 then rkp a p st else st
  | K + 1, p, st => nfold (fun g st => if pcan (a 4) (xup p (a 3 - (K : Int) - 1) (g : Int)) (a 3 - (K : Int) - 1) = true then rcf a K (xup p (a 3 - (K : Int) - 1) (g : Int)) st else st) (a 4).toNat st
def PIN (p : Int → Int) (k : Int) : Prop := ∀ i, 0 ≤ i → i < k → 0 ≤ p i ∧ p i < 5
def psetN (p : Int → Int) : Nat → Nat
  | 0 => 0
  | k + 1 => psetN p k ||| 2 ^ (p (k : Int)).toNat
theorem psetN_lt {p : Int → Int} {G : Nat} : ∀ k : Nat, (∀ i, 0 ≤ i → i < (k : Int) → 0 ≤ p i ∧ p i < (G : Int)) → psetN p k < 2 ^ G := by
  intro k
  induction k with
  | zero => intro _; exact Nat.two_pow_pos _
  | succ k ih =>
    intro h
    have h1 := h (k : Int) (by omega) (by omega)
    exact Nat.or_lt_two_pow (ih (fun i i0 i1 => h i i0 (by omega))) (Nat.pow_lt_pow_right (by decide) (by omega))
theorem pset_N {p : Int → Int} : ∀ k : Nat, PIN p (k : Int) → pset p k = (psetN p k : Int) := by
  intro k
  induction k with
  | zero => intro _; rfl
  | succ k ih =>
    intro h
    have h1 := h (k : Int) (by omega) (by omega)
    have h2 := psetN_lt (G := 5) k (fun i i0 i1 => h i i0 (by omega))
    have h3 : 2 ^ (p (k : Int)).toNat < 2 ^ 5 := Nat.pow_lt_pow_right (by decide) (by omega)
    unfold pset psetN
    have e : xshl 1 (p (k : Int)) = ((2 ^ (p (k : Int)).toNat : Nat) : Int) := by
      have := xshl_n (j := (p (k : Int)).toNat) (by omega)
      rw [Int.toNat_of_nonneg h1.1] at this
      exact this
    rw [ih (fun i i0 i1 => h i i0 (by omega)), e, xior_n _ _ (by omega) (by omega)]
theorem pset_rg {p : Int → Int} {k : Nat} (h : PIN p (k : Int)) : 0 ≤ pset p k ∧ pset p k < 32 := by
  rw [pset_N k h]
  have := psetN_lt (G := 5) k h
  omega
theorem psm_rg {a p : Int → Int} (h : SO a) {g : Int} (g0 : 0 ≤ g) (g1 : g < 5) : ∀ n : Nat, n ≤ 10 → 0 ≤ psm a p g n ∧ psm a p g n ≤ 81 * (n : Int) := by
  intro n
  induction n with
  | zero => intro _; exact ⟨Int.le_refl _, Int.le_refl _⟩
  | succ n ih =>
    intro hn
    have h1 := ih (by omega)
    have h2 := pw_rg h g0 g1 (s := (n : Int)) (by omega) (by omega)
    unfold psm
    split <;> omega
theorem plst_rg {a p : Int → Int} (h : SO a) : ∀ g : Nat, g ≤ 5 → -1 ≤ plst a p g ∧ plst a p g ≤ 810 ∧ (0 < g → 0 ≤ plst a p g) := by
  intro g
  have hn := h.n
  induction g with
  | zero => intro _; exact ⟨Int.le_refl _, by show (-1 : Int) ≤ 810; decide, fun h => by omega⟩
  | succ g ih =>
    intro hg
    have h1 := ih (by omega)
    have h2 := psm_rg (p := p) h (g := (g : Int)) (by omega) (by omega) (a 3).toNat (by omega)
    unfold plst
    split <;> omega
set_option maxRecDepth 8000 in
theorem sg_229_0 {d : Nat} {I : XI} {L : XL} {D : GD} {post : XQ}  {u1 : Int} {u2 : Int} (h : xR d 229 es_229 2 [xr (some 101), xi u1, xi u2, xi (0 : Int)] [] I L (gG D) 0 0 post) : xR d 229 es_229 0 [xr (some 101), xi u1, xi u2, xt 0] [] I L (gG D) 0 0 post := xW_R (fun k => Nat.beq k 2) 2 _ _ _ _ _ _ _ _ _ _ _ _ h
set_option maxRecDepth 8000 in
theorem w_229 {d : Nat} {I : XI} {L : XL} {D : GD} {post : XQ}   {kq : Int} {g : Int} (hd : 0 ≤ d) (h : xR d 229 es_229 2 [xr (some 101), xi kq, xi g, xi (0 : Int)] [] I L (gG D) 0 0 post) : xR d 229 es_229 0 [xr (some 101), xi kq, xi g, xt 0] [] I L (gG D) 0 0 post := sg_229_0  (h)
set_option maxRecDepth 8000 in
theorem sg_229_2 {d : Nat} {I : XI} {L : XL} {D : GD} {post : XQ}  {u1 : Int} {u2 : Int} {u3 : Int} (h : (((-2147483648 ≤ u3 ∧ u3 ≤ 2147483647) ∧ (-2147483648 ≤ u1 ∧ u1 ≤ 2147483647)) ∧ ((u1 ≤ u3 → (((0 : Int) = 0 ∨ (0 : Int) = 1) ∧ post (some (xi (0 : Int))) I L (gG D))) ∧ (u3 < u1 → ((0 ≤ u3 ∧ u3 < (11 : Int)) ∧ (((-2147483648 ≤ (I 114 u3) ∧ (I 114 u3) ≤ 2147483647) ∧ (-2147483648 ≤ u2 ∧ u2 ≤ 2147483647)) ∧ ((¬ (I 114 u3) = u2 → xR d 229 es_229 2 [xr (some 101), xi u1, xi u2, xi (u3 + (1 : Int))] [] I L (gG D) 0 0 post) ∧ ((I 114 u3) = u2 → (((1 : Int) = 0 ∨ (1 : Int) = 1) ∧ post (some (xi (1 : Int))) I L (gG D)))))))))) : xR d 229 es_229 2 [xr (some 101), xi u1, xi u2, xi u3] [] I L (gG D) 0 0 post := xW_R (fun k => Nat.beq k 2) 11 _ _ _ _ _ _ _ _ _ _ _ _ h
set_option maxRecDepth 8000 in
theorem b_229 {d : Nat} {I : XI} {L : XL} {D : GD} {post : XQ}   {kq : Int} {g : Int} {i0 : Int} (hd : 0 ≤ d) (h : (((-2147483648 ≤ i0 ∧ i0 ≤ 2147483647) ∧ (-2147483648 ≤ kq ∧ kq ≤ 2147483647)) ∧ ((kq ≤ i0 → post (some (xi (0 : Int))) I L (gG D)) ∧ (i0 < kq → (((0 ≤ i0 ∧ i0 < (11 : Int))) ∧ (((-2147483648 ≤ (I 114 i0) ∧ (I 114 i0) ≤ 2147483647) ∧ (-2147483648 ≤ g ∧ g ≤ 2147483647)) ∧ ((¬ (I 114 i0) = g → xR d 229 es_229 2 [xr (some 101), xi kq, xi g, xi (i0 + (1 : Int))] [] I L (gG D) 0 0 post) ∧ ((I 114 i0) = g → post (some (xi (1 : Int))) I L (gG D))))))))) : xR d 229 es_229 2 [xr (some 101), xi kq, xi g, xi i0] [] I L (gG D) 0 0 post := sg_229_2  (⟨⟨h.1.1, h.1.2⟩, ⟨fun q3075 => ⟨(by decide), (h.2.1 q3075)⟩, fun q3076 => ⟨(h.2.2 q3076).1, ⟨⟨(h.2.2 q3076).2.1.1, (h.2.2 q3076).2.1.2⟩, ⟨fun q3073 => ((h.2.2 q3076).2.2.1 q3073), fun q3074 => ⟨(by decide), ((h.2.2 q3076).2.2.2 q3074)⟩⟩⟩⟩⟩⟩)
theorem c_229 {I : XI} {L : XL} {D : GD}   {kq : Int} {g : Int} (h : ((0 ≤ kq ∧ kq ≤ 10) ∧ PIN (I 114) kq ∧ (-2147483648 ≤ g ∧ g ≤ 2147483647))) : xM 0 229 [xr (some 101), xi kq, xi g] I L (gG D) (0, 0) (xD (some (xi (xb (pus (I 114) g (kq).toNat = true)))) I L (gG D)) := by
  intro d hd
  obtain ⟨h1, h2, h3⟩ := h
  refine w_229 (by omega) ?_
  have key : ∀ k : Nat, k ≤ kq.toNat → pus (I 114) g kq.toNat = pany (fun i => decide (I 114 (i : Int) = g)) (kq.toNat - k) k → xR d 229 es_229 2 [xr (some 101), xi kq, xi g, xi (k : Int)] [] I L (gG D) 0 0 (xD (some (xi (xb (pus (I 114) g kq.toNat = true)))) I L (gG D)) := by
    refine xfor ?_ ?_
    · intro  hy
      refine b_229 (by omega) ?_
      repeat' first | (with_reducible intro _) | (with_reducible refine And.intro ?_ ?_)
      all_goals first | omega | assumption | skip
      rw [hy, Nat.sub_self, xb_f (by simp [pany])]
      exact xD_in
    · intro k hk ih  hy
      have hp := h2 (k : Int) (by omega) (by omega)
      rw [show kq.toNat - (k + 1) = kq.toNat - k - 1 by omega] at ih
      refine b_229 (by omega) ?_
      repeat' first | (with_reducible intro _) | (with_reducible refine And.intro ?_ ?_)
      all_goals first | omega | assumption | skip
      all_goals first
        | (have hq : I 114 (k : Int) = g := by assumption
           rw [hy, pany_pos (F := fun i => decide (I 114 (i : Int) = g)) (by omega) (by simp only [decide_eq_true_eq]; exact hq), xb_t rfl]
           exact xD_in)
        | (have hq : ¬ I 114 (k : Int) = g := by assumption
           exact ih (by rw [hy, pany_neg (F := fun i => decide (I 114 (i : Int) = g)) (by omega) (by simp only [decide_eq_true_eq]; exact hq)]))
  exact key 0 (Nat.zero_le _) rfl
set_option maxRecDepth 8000 in
theorem sg_230_0 {d : Nat} {I : XI} {L : XL} {D : GD} {post : XQ}  {u1 : Int} (h : xR d 230 es_230 4 [xr (some 101), xi u1, xi (0 : Int), xi (0 : Int)] [] I L (gG D) 0 0 post) : xR d 230 es_230 0 [xr (some 101), xi u1, xt 0, xt 0] [] I L (gG D) 0 0 post := xW_R (fun k => Nat.beq k 4 || Nat.beq k 19) 4 _ _ _ _ _ _ _ _ _ _ _ _ h
set_option maxRecDepth 8000 in
theorem w_230 {d : Nat} {I : XI} {L : XL} {D : GD} {post : XQ}   {kq : Int} (hd : 0 ≤ d) (h : xR d 230 es_230 4 [xr (some 101), xi kq, xi (0 : Int), xi (0 : Int)] [] I L (gG D) 0 0 post) : xR d 230 es_230 0 [xr (some 101), xi kq, xt 0, xt 0] [] I L (gG D) 0 0 post := sg_230_0  (h)
set_option maxRecDepth 8000 in
theorem sg_230_4 {d : Nat} {I : XI} {L : XL} {D : GD} {post : XQ}  {u1 : Int} {u2 : Int} {u3 : Int} (h : (((-2147483648 ≤ u3 ∧ u3 ≤ 2147483647) ∧ (-2147483648 ≤ u1 ∧ u1 ≤ 2147483647)) ∧ ((u1 ≤ u3 → xR d 230 es_230 19 [xr (some 101), xi u1, xi u2, xi u3] [xi u2] I L (gG D) 0 0 post) ∧ (u3 < u1 → ((0 ≤ u3 ∧ u3 < (11 : Int)) ∧ xR d 230 es_230 4 [xr (some 101), xi u1, xi (xior u2 (xshl (1 : Int) (I 114 u3))), xi (u3 + (1 : Int))] [] I L (gG D) 0 0 post))))) : xR d 230 es_230 4 [xr (some 101), xi u1, xi u2, xi u3] [] I L (gG D) 0 0 post := xW_R (fun k => Nat.beq k 4 || Nat.beq k 19) 14 _ _ _ _ _ _ _ _ _ _ _ _ h
set_option maxRecDepth 8000 in
theorem sg_230_20 {d : Nat} {I : XI} {L : XL} {D : GD} {post : XQ}  {u1 : Int} {u2 : Int} {u3 : Int} {w0 : Int} (h : post (some (xi w0)) I L (gG D)) : xR d 230 es_230 20 [xr (some 101), xi u1, xi u2, xi u3] [xi w0] I L (gG D) 0 0 post := xW_R (fun k => Nat.beq k 4 || Nat.beq k 19) 1 _ _ _ _ _ _ _ _ _ _ _ _ h
set_option maxRecDepth 8000 in
theorem b_230 {d : Nat} {I : XI} {L : XL} {D : GD} {post : XQ}   {kq : Int} {set : Int} {i0 : Int} (hd : 1 ≤ d) (h : (((-2147483648 ≤ i0 ∧ i0 ≤ 2147483647) ∧ (-2147483648 ≤ kq ∧ kq ≤ 2147483647)) ∧ ((kq ≤ i0 → ((0 ≤ set ∧ set < 1024) ∧ post (some (xi (pbits set))) I L (gG D))) ∧ (i0 < kq → (((0 ≤ i0 ∧ i0 < (11 : Int))) ∧ xR d 230 es_230 4 [xr (some 101), xi kq, xi (xior set (xshl (1 : Int) (I 114 i0))), xi (i0 + (1 : Int))] [] I L (gG D) 0 0 post))))) : xR d 230 es_230 4 [xr (some 101), xi kq, xi set, xi i0] [] I L (gG D) 0 0 post := sg_230_4  (⟨⟨h.1.1, h.1.2⟩, ⟨fun q3077 => (xR_cF rfl rfl rfl (c_149 (h.2.1 q3077).1) (by omega) (sg_230_20  (h.2.1 q3077).2)), fun q3078 => ⟨(h.2.2 q3078).1, (h.2.2 q3078).2⟩⟩⟩)
theorem c_230 {I : XI} {L : XL} {D : GD}   {kq : Int} (h : ((0 ≤ kq ∧ kq ≤ 10) ∧ PIN (I 114) kq)) : xM 1 230 [xr (some 101), xi kq] I L (gG D) (0, 0) (xD (some (xi (pum (I 114) (kq).toNat))) I L (gG D)) := by
  intro d hd
  obtain ⟨h1, h2⟩ := h
  refine w_230 (by omega) ?_
  have key : ∀ k : Nat, k ≤ kq.toNat → xR d 230 es_230 4 [xr (some 101), xi kq, xi (pset (I 114) k), xi (k : Int)] [] I L (gG D) 0 0 (xD (some (xi (pum (I 114) kq.toNat))) I L (gG D)) := by
    refine xfor ?_ ?_
    · have hb := pset_rg (p := I 114) (k := kq.toNat) (by rw [Int.toNat_of_nonneg h1.1]; exact h2)
      refine b_230 (by omega) ?_
      repeat' first | (with_reducible intro _) | (with_reducible refine And.intro ?_ ?_)
      all_goals first | omega | assumption | skip
      exact xD_in
    · intro k hk ih 
      refine b_230 (by omega) ?_
      repeat' first | (with_reducible intro _) | (with_reducible refine And.intro ?_ ?_)
      all_goals first | omega | assumption | skip
      all_goals exact ih
  exact key 0 (Nat.zero_le _)
set_option maxRecDepth 8000 in
theorem sg_231_0 {d : Nat} {I : XI} {L : XL} {D : GD} {post : XQ}  {u1 : Int} (h : xR d 231 es_231 2 [xr (some 101), xi u1, xi (1 : Int)] [] I L (gG D) 0 0 post) : xR d 231 es_231 0 [xr (some 101), xi u1, xt 0] [] I L (gG D) 0 0 post := xW_R (fun k => Nat.beq k 2) 2 _ _ _ _ _ _ _ _ _ _ _ _ h
set_option maxRecDepth 8000 in
theorem w_231 {d : Nat} {I : XI} {L : XL} {D : GD} {post : XQ}   {kq : Int} (hd : 0 ≤ d) (h : xR d 231 es_231 2 [xr (some 101), xi kq, xi (1 : Int)] [] I L (gG D) 0 0 post) : xR d 231 es_231 0 [xr (some 101), xi kq, xt 0] [] I L (gG D) 0 0 post := sg_231_0  (h)
set_option maxRecDepth 8000 in
theorem sg_231_2 {d : Nat} {I : XI} {L : XL} {D : GD} {post : XQ}  {u1 : Int} {u2 : Int} (h : (((-2147483648 ≤ u2 ∧ u2 ≤ 2147483647) ∧ (-2147483648 ≤ u1 ∧ u1 ≤ 2147483647)) ∧ ((u1 ≤ u2 → (((0 : Int) = 0 ∨ (0 : Int) = 1) ∧ post (some (xi (0 : Int))) I L (gG D))) ∧ (u2 < u1 → ((0 ≤ u2 ∧ u2 < (11 : Int)) ∧ ((0 ≤ (0 : Int) ∧ (0 : Int) < (11 : Int)) ∧ (((-2147483648 ≤ (I 114 u2) ∧ (I 114 u2) ≤ 2147483647) ∧ (-2147483648 ≤ (I 114 (0 : Int)) ∧ (I 114 (0 : Int)) ≤ 2147483647)) ∧ ((¬ (I 114 u2) = (I 114 (0 : Int)) → xR d 231 es_231 2 [xr (some 101), xi u1, xi (u2 + (1 : Int))] [] I L (gG D) 0 0 post) ∧ ((I 114 u2) = (I 114 (0 : Int)) → ((0 ≤ (u2 - (1 : Int)) ∧ (u2 - (1 : Int)) < (11 : Int)) ∧ ((0 ≤ (0 : Int) ∧ (0 : Int) < (11 : Int)) ∧ (((-2147483648 ≤ (I 114 (u2 - (1 : Int))) ∧ (I 114 (u2 - (1 : Int))) ≤ 2147483647) ∧ (-2147483648 ≤ (I 114 (0 : Int)) ∧ (I 114 (0 : Int)) ≤ 2147483647)) ∧ (((I 114 (u2 - (1 : Int))) = (I 114 (0 : Int)) → xR d 231 es_231 2 [xr (some 101), xi u1, xi (u2 + (1 : Int))] [] I L (gG D) 0 0 post) ∧ (¬ (I 114 (u2 - (1 : Int))) = (I 114 (0 : Int)) → (((1 : Int) = 0 ∨ (1 : Int) = 1) ∧ post (some (xi (1 : Int))) I L (gG D)))))))))))))))) : xR d 231 es_231 2 [xr (some 101), xi u1, xi u2] [] I L (gG D) 0 0 post := xW_R (fun k => Nat.beq k 2) 25 _ _ _ _ _ _ _ _ _ _ _ _ h
set_option maxRecDepth 8000 in
theorem b_231 {d : Nat} {I : XI} {L : XL} {D : GD} {post : XQ}   {kq : Int} {i0 : Int} (hd : 0 ≤ d) (h : (((-2147483648 ≤ i0 ∧ i0 ≤ 2147483647) ∧ (-2147483648 ≤ kq ∧ kq ≤ 2147483647)) ∧ ((kq ≤ i0 → post (some (xi (0 : Int))) I L (gG D)) ∧ (i0 < kq → (((0 ≤ i0 ∧ i0 < (11 : Int))) ∧ (((-2147483648 ≤ (I 114 i0) ∧ (I 114 i0) ≤ 2147483647) ∧ (-2147483648 ≤ (I 114 (0 : Int)) ∧ (I 114 (0 : Int)) ≤ 2147483647)) ∧ ((¬ (I 114 i0) = (I 114 (0 : Int)) → xR d 231 es_231 2 [xr (some 101), xi kq, xi (i0 + (1 : Int))] [] I L (gG D) 0 0 post) ∧ ((I 114 i0) = (I 114 (0 : Int)) → (((0 ≤ (i0 - (1 : Int)) ∧ (i0 - (1 : Int)) < (11 : Int))) ∧ (((-2147483648 ≤ (I 114 (i0 - (1 : Int))) ∧ (I 114 (i0 - (1 : Int))) ≤ 2147483647)) ∧ (((I 114 (i0 - (1 : Int))) = (I 114 (0 : Int)) → xR d 231 es_231 2 [xr (some 101), xi kq, xi (i0 + (1 : Int))] [] I L (gG D) 0 0 post) ∧ (¬ (I 114 (i0 - (1 : Int))) = (I 114 (0 : Int)) → post (some (xi (1 : Int))) I L (gG D))))))))))))) : xR d 231 es_231 2 [xr (some 101), xi kq, xi i0] [] I L (gG D) 0 0 post := sg_231_2  (⟨⟨h.1.1, h.1.2⟩, ⟨fun q3083 => ⟨(by decide), (h.2.1 q3083)⟩, fun q3084 => ⟨(h.2.2 q3084).1, ⟨(by decide), ⟨⟨(h.2.2 q3084).2.1.1, (h.2.2 q3084).2.1.2⟩, ⟨fun q3081 => ((h.2.2 q3084).2.2.1 q3081), fun q3082 => ⟨((h.2.2 q3084).2.2.2 q3082).1, ⟨(by decide), ⟨⟨((h.2.2 q3084).2.2.2 q3082).2.1, (h.2.2 q3084).2.1.2⟩, ⟨fun q3079 => (((h.2.2 q3084).2.2.2 q3082).2.2.1 q3079), fun q3080 => ⟨(by decide), (((h.2.2 q3084).2.2.2 q3082).2.2.2 q3080)⟩⟩⟩⟩⟩⟩⟩⟩⟩⟩⟩)
theorem c_231 {I : XI} {L : XL} {D : GD}   {kq : Int} (h : ((0 ≤ kq ∧ kq ≤ 10) ∧ PIN (I 114) kq)) : xM 0 231 [xr (some 101), xi kq] I L (gG D) (0, 0) (xD (some (xi (xb (pird (I 114) (kq).toNat = true)))) I L (gG D)) := by
  intro d hd
  obtain ⟨h1, h2⟩ := h
  refine w_231 (by omega) ?_
  have key : ∀ k : Nat, k ≤ (kq.toNat - 1) → pird (I 114) kq.toNat = pany (fun i : Nat => decide (I 114 (i : Int) = I 114 0 ∧ ¬ I 114 ((i : Int) - 1) = I 114 0)) (kq.toNat - 1 - k) (k + 1) → xR d 231 es_231 2 [xr (some 101), xi kq, xi ((k : Int) + 1)] [] I L (gG D) 0 0 (xD (some (xi (xb (pird (I 114) kq.toNat = true)))) I L (gG D)) := by
    refine xfor ?_ ?_
    · intro  hy
      refine b_231 (by omega) ?_
      repeat' first | (with_reducible intro _) | (with_reducible refine And.intro ?_ ?_)
      all_goals first | omega | assumption | skip
      rw [hy, Nat.sub_self, xb_f (by simp [pany])]
      exact xD_in
    · intro k hk ih  hy
      have hp := h2 ((k : Int) + 1) (by omega) (by omega)
      have hp0 := h2 0 (by omega) (by omega)
      have hp1 := h2 (k : Int) (by omega) (by omega)
      have ek : (k : Int) + 1 - 1 = (k : Int) := by omega
      have ec : ((k + 1 : Nat) : Int) = (k : Int) + 1 := by omega
      rw [show kq.toNat - 1 - (k + 1) = kq.toNat - 1 - k - 1 by omega, ec] at ih
      refine b_231 (by omega) ?_
      simp only [ek]
      repeat' first | (with_reducible intro _) | (with_reducible refine And.intro ?_ ?_)
      all_goals first | omega | assumption | skip
      all_goals first
        | (have hq : I 114 ((k : Int) + 1) = I 114 0 := by assumption
           have hq2 : ¬ I 114 (k : Int) = I 114 0 := by assumption
           rw [hy, pany_pos (F := (fun i : Nat => decide (I 114 (i : Int) = I 114 0 ∧ ¬ I 114 ((i : Int) - 1) = I 114 0))) (by omega) (by simp only [decide_eq_true_eq, ec, ek]; exact ⟨hq, hq2⟩), xb_t rfl]
           exact xD_in)
        | (refine ih (by rw [hy, pany_neg (F := (fun i : Nat => decide (I 114 (i : Int) = I 114 0 ∧ ¬ I 114 ((i : Int) - 1) = I 114 0))) (by omega) (by simp only [decide_eq_true_eq, ec, ek]; intro r; first | exact absurd r.1 (by assumption) | exact absurd (by assumption) r.2)]))
  exact key 0 (Nat.zero_le _) rfl
set_option maxRecDepth 8000 in
theorem sg_232_0 {d : Nat} {I : XI} {L : XL} {D : GD} {post : XQ}  {u1 : Int} (h : ((-2147483648 ≤ u1 ∧ u1 ≤ 2147483647) ∧ ((¬ u1 = 0 → ((0 ≤ u1 ∧ u1 < (11 : Int)) ∧ ((0 ≤ (u1 - (1 : Int)) ∧ (u1 - (1 : Int)) < (11 : Int)) ∧ (((-2147483648 ≤ (I 114 u1) ∧ (I 114 u1) ≤ 2147483647) ∧ (-2147483648 ≤ (I 114 (u1 - (1 : Int))) ∧ (I 114 (u1 - (1 : Int))) ≤ 2147483647)) ∧ ((¬ (I 114 u1) = (I 114 (u1 - (1 : Int))) → xR d 232 es_232 21 [xr (some 101), xi u1, xi (I 114 u1)] [xi u1, xr (some 101)] I L (gG D) 0 0 post) ∧ ((I 114 u1) = (I 114 (u1 - (1 : Int))) → (((1 : Int) = 0 ∨ (1 : Int) = 1) ∧ post (some (xi (1 : Int))) I L (gG D)))))))) ∧ (u1 = 0 → (((1 : Int) = 0 ∨ (1 : Int) = 1) ∧ post (some (xi (1 : Int))) I L (gG D)))))) : xR d 232 es_232 0 [xr (some 101), xi u1, xt 0] [] I L (gG D) 0 0 post := xW_R (fun k => Nat.beq k 21 || Nat.beq k 28 || Nat.beq k 38) 17 _ _ _ _ _ _ _ _ _ _ _ _ h
set_option maxRecDepth 8000 in
theorem sg_232_22 {d : Nat} {I : XI} {L : XL} {D : GD} {post : XQ}  {u1 : Int} {u2 : Int} {w0 : Int} (h : ((-2147483648 ≤ w0 ∧ w0 ≤ 2147483647) ∧ ((w0 = 0 → xR d 232 es_232 28 [xr (some 101), xi u1, xi u2] [xi u2, xi u1, xr (some 101)] I L (gG D) 0 0 post) ∧ (¬ w0 = 0 → (((0 : Int) = 0 ∨ (0 : Int) = 1) ∧ post (some (xi (0 : Int))) I L (gG D)))))) : xR d 232 es_232 22 [xr (some 101), xi u1, xi u2] [xi w0] I L (gG D) 0 0 post := xW_R (fun k => Nat.beq k 21 || Nat.beq k 28 || Nat.beq k 38) 4 _ _ _ _ _ _ _ _ _ _ _ _ h
set_option maxRecDepth 8000 in
theorem sg_232_29 {d : Nat} {I : XI} {L : XL} {D : GD} {post : XQ}  {u1 : Int} {u2 : Int} {w0 : Int} (h : ((-2147483648 ≤ w0 ∧ w0 ≤ 2147483647) ∧ ((w0 = 0 → (((1 : Int) = 0 ∨ (1 : Int) = 1) ∧ post (some (xi (1 : Int))) I L (gG D))) ∧ (¬ w0 = 0 → ((0 ≤ (0 : Int) ∧ (0 : Int) < (11 : Int)) ∧ (((-2147483648 ≤ u2 ∧ u2 ≤ 2147483647) ∧ (-2147483648 ≤ (I 114 (0 : Int)) ∧ (I 114 (0 : Int)) ≤ 2147483647)) ∧ ((¬ u2 = (I 114 (0 : Int)) → (((0 : Int) = 0 ∨ (0 : Int) = 1) ∧ post (some (xi (0 : Int))) I L (gG D))) ∧ (u2 = (I 114 (0 : Int)) → xR d 232 es_232 38 [xr (some 101), xi u1, xi u2] [xi u1, xr (some 101)] I L (gG D) 0 0 post)))))))) : xR d 232 es_232 29 [xr (some 101), xi u1, xi u2] [xi w0] I L (gG D) 0 0 post := xW_R (fun k => Nat.beq k 21 || Nat.beq k 28 || Nat.beq k 38) 9 _ _ _ _ _ _ _ _ _ _ _ _ h
set_option maxRecDepth 8000 in
theorem sg_232_39 {d : Nat} {I : XI} {L : XL} {D : GD} {post : XQ}  {u1 : Int} {u2 : Int} {w0 : Int} (h : ((0 ≤ (4 : Int) ∧ (4 : Int) < (102 : Int)) ∧ (((-2147483648 ≤ w0 ∧ w0 ≤ 2147483647) ∧ (-2147483648 ≤ (I 111 (4 : Int)) ∧ (I 111 (4 : Int)) ≤ 2147483647)) ∧ ((¬ w0 = (I 111 (4 : Int)) → (((0 : Int) = 0 ∨ (0 : Int) = 1) ∧ post (some (xi (0 : Int))) I L (gG D))) ∧ (w0 = (I 111 (4 : Int)) → (((1 : Int) = 0 ∨ (1 : Int) = 1) ∧ post (some (xi (1 : Int))) I L (gG D))))))) : xR d 232 es_232 39 [xr (some 101), xi u1, xi u2] [xi w0] I L (gG D) 0 0 post := xW_R (fun k => Nat.beq k 21 || Nat.beq k 28 || Nat.beq k 38) 8 _ _ _ _ _ _ _ _ _ _ _ _ h
set_option maxRecDepth 8000 in
theorem w_232 {d : Nat} {I : XI} {L : XL} {D : GD} {post : XQ}   {kq : Int} (hd : 2 ≤ d) (h : (((-2147483648 ≤ kq ∧ kq ≤ 2147483647)) ∧ ((¬ kq = 0 → (((0 ≤ kq ∧ kq < (11 : Int))) ∧ (((0 ≤ (kq - (1 : Int)) ∧ (kq - (1 : Int)) < (11 : Int))) ∧ (((-2147483648 ≤ (I 114 kq) ∧ (I 114 kq) ≤ 2147483647) ∧ (-2147483648 ≤ (I 114 (kq - (1 : Int))) ∧ (I 114 (kq - (1 : Int))) ≤ 2147483647)) ∧ ((¬ (I 114 kq) = (I 114 (kq - (1 : Int))) → (((0 ≤ kq ∧ kq ≤ 10) ∧ PIN (I 114) kq) ∧ (((¬ (pird (I 114) (kq).toNat = true) → (((0 ≤ kq ∧ kq ≤ 10) ∧ PIN (I 114) kq ∧ (-2147483648 ≤ (I 114 kq) ∧ (I 114 kq) ≤ 2147483647)) ∧ (((¬ (pus (I 114) (I 114 kq) (kq).toNat = true) → post (some (xi (1 : Int))) I L (gG D)) ∧ (pus (I 114) (I 114 kq) (kq).toNat = true → (((-2147483648 ≤ (I 114 (0 : Int)) ∧ (I 114 (0 : Int)) ≤ 2147483647)) ∧ ((¬ (I 114 kq) = (I 114 (0 : Int)) → post (some (xi (0 : Int))) I L (gG D)) ∧ ((I 114 kq) = (I 114 (0 : Int)) → (((-2147483648 ≤ (pum (I 114) (kq).toNat) ∧ (pum (I 114) (kq).toNat) ≤ 2147483647) ∧ (-2147483648 ≤ (I 111 (4 : Int)) ∧ (I 111 (4 : Int)) ≤ 2147483647)) ∧ ((¬ (pum (I 114) (kq).toNat) = (I 111 (4 : Int)) → post (some (xi (0 : Int))) I L (gG D)) ∧ ((pum (I 114) (kq).toNat) = (I 111 (4 : Int)) → post (some (xi (1 : Int))) I L (gG D)))))))))))) ∧ (pird (I 114) (kq).toNat = true → post (some (xi (0 : Int))) I L (gG D)))))) ∧ ((I 114 kq) = (I 114 (kq - (1 : Int))) → post (some (xi (1 : Int))) I L (gG D))))))) ∧ (kq = 0 → post (some (xi (1 : Int))) I L (gG D))))) : xR d 232 es_232 0 [xr (some 101), xi kq, xt 0] [] I L (gG D) 0 0 post := sg_232_0  (⟨h.1, ⟨fun q3095 => ⟨(h.2.1 q3095).1, ⟨(h.2.1 q3095).2.1, ⟨⟨(h.2.1 q3095).2.2.1.1, (h.2.1 q3095).2.2.1.2⟩, ⟨fun q3093 => (xR_cF rfl rfl rfl (c_231 ((h.2.1 q3095).2.2.2.1 q3093).1) (by omega) (sg_232_22  ⟨(xb_rg _), ⟨fun q3091 => (xR_cF rfl rfl rfl (c_229 (((h.2.1 q3095).2.2.2.1 q3093).2.1 (xb_0 q3091)).1) (by omega) (sg_232_29  ⟨(xb_rg _), ⟨fun q3089 => ⟨(by decide), ((((h.2.1 q3095).2.2.2.1 q3093).2.1 (xb_0 q3091)).2.1 (xb_0 q3089))⟩, fun q3090 => ⟨(by decide), ⟨⟨(h.2.1 q3095).2.2.1.1, ((((h.2.1 q3095).2.2.2.1 q3093).2.1 (xb_0 q3091)).2.2 (xb_n0 q3090)).1⟩, ⟨fun q3087 => ⟨(by decide), (((((h.2.1 q3095).2.2.2.1 q3093).2.1 (xb_0 q3091)).2.2 (xb_n0 q3090)).2.1 q3087)⟩, fun q3088 => (xR_cF rfl rfl rfl (c_230 ((h.2.1 q3095).2.2.2.1 q3093).1) (by omega) (sg_232_39  ⟨(by decide), ⟨⟨(((((h.2.1 q3095).2.2.2.1 q3093).2.1 (xb_0 q3091)).2.2 (xb_n0 q3090)).2.2 q3088).1.1, (((((h.2.1 q3095).2.2.2.1 q3093).2.1 (xb_0 q3091)).2.2 (xb_n0 q3090)).2.2 q3088).1.2⟩, ⟨fun q3085 => ⟨(by decide), ((((((h.2.1 q3095).2.2.2.1 q3093).2.1 (xb_0 q3091)).2.2 (xb_n0 q3090)).2.2 q3088).2.1 q3085)⟩, fun q3086 => ⟨(by decide), ((((((h.2.1 q3095).2.2.2.1 q3093).2.1 (xb_0 q3091)).2.2 (xb_n0 q3090)).2.2 q3088).2.2 q3086)⟩⟩⟩⟩))⟩⟩⟩⟩⟩)), fun q3092 => ⟨(by decide), (((h.2.1 q3095).2.2.2.1 q3093).2.2 (xb_n0 q3092))⟩⟩⟩)), fun q3094 => ⟨(by decide), ((h.2.1 q3095).2.2.2.2 q3094)⟩⟩⟩⟩⟩, fun q3096 => ⟨(by decide), (h.2.2 q3096)⟩⟩⟩)
theorem c_232 {I : XI} {L : XL} {D : GD}   {kq : Int} (h : ((0 ≤ kq ∧ kq < 10) ∧ PIN (I 114) (kq + 1) ∧ (-2147483648 ≤ (I 111 (4 : Int)) ∧ (I 111 (4 : Int)) ≤ 2147483647))) : xM 2 232 [xr (some 101), xi kq] I L (gG D) (0, 0) (xD (some (xi (xb (pcan (I 111 (4 : Int)) (I 114) kq = true)))) I L (gG D)) := by
  intro d hd
  obtain ⟨h1, h2, h3⟩ := h
  have hk := h2 kq (by omega) (by omega)
  have h0 := h2 0 (by omega) (by omega)
  have hk1 : ¬ kq = 0 → 0 ≤ I 114 (kq - 1) ∧ I 114 (kq - 1) < 5 := fun q => h2 (kq - 1) (by omega) (by omega)
  have hP : PIN (I 114) kq := fun i i0 i1 => h2 i i0 (by omega)
  have hpm := pset_rg (p := I 114) (k := kq.toNat) (by rw [Int.toNat_of_nonneg h1.1]; exact hP)
  have hpm2 := pbits_rg hpm.1 (by omega)
  have hpm3 : 0 ≤ pum (I 114) kq.toNat ∧ pum (I 114) kq.toNat ≤ 10 := hpm2
  have ep : (pcan (I 111 4) (I 114) kq = true) = (kq = 0 ∨ I 114 kq = I 114 (kq - 1) ∨ (¬ pird (I 114) kq.toNat = true ∧ (¬ pus (I 114) (I 114 kq) kq.toNat = true ∨ (I 114 kq = I 114 0 ∧ pum (I 114) kq.toNat = I 111 4)))) := by unfold pcan; exact decide_eq_true_eq
  simp only [ep]
  refine w_232 (by omega) ?_
  repeat' first | (with_reducible intro _) | (with_reducible refine And.intro ?_ ?_)
  all_goals first | omega | exact ⟨⟨by omega, by omega⟩, hP⟩ | exact ⟨⟨by omega, by omega⟩, hP, by omega⟩ | skip
  all_goals first
    | (have := hk1 (by assumption); omega)
    | (rw [xb_t (by first | exact Or.inl (by assumption) | exact Or.inr (Or.inl (by assumption)) | exact Or.inr (Or.inr ⟨by assumption, Or.inl (by assumption)⟩) | exact Or.inr (Or.inr ⟨by assumption, Or.inr ⟨by assumption, by assumption⟩⟩))]; exact xD_in)
    | (rw [xb_f (by rintro (r | r | ⟨r, (r2 | r2)⟩) <;> first | contradiction | (exact absurd r2.1 (by assumption)) | (exact absurd r2.2 (by assumption)))]; exact xD_in)
    | exact hP _ (by assumption) (by assumption) | exact (hP _ (by assumption) (by assumption)).1 | exact (hP _ (by assumption) (by assumption)).2
set_option maxRecDepth 8000 in
theorem sg_233_0 {d : Nat} {I : XI} {L : XL} {D : GD} {post : XQ}   (h : xR d 233 es_233 4 [xr (some 101), xi (-1 : Int), xi (0 : Int), xt 0, xt 0] [] I L (gG D) 0 0 post) : xR d 233 es_233 0 [xr (some 101), xt 0, xt 0, xt 0, xt 0] [] I L (gG D) 0 0 post := xW_R (fun k => Nat.beq k 4 || Nat.beq k 14 || Nat.beq k 30 || Nat.beq k 58) 4 _ _ _ _ _ _ _ _ _ _ _ _ h
set_option maxRecDepth 8000 in
theorem w_233 {d : Nat} {I : XI} {L : XL} {D : GD} {post : XQ}    (hd : 0 ≤ d) (h : xR d 233 es_233 4 [xr (some 101), xi (-1 : Int), xi (0 : Int), xt 0, xt 0] [] I L (gG D) 0 0 post) : xR d 233 es_233 0 [xr (some 101), xt 0, xt 0, xt 0, xt 0] [] I L (gG D) 0 0 post := sg_233_0  (h)
set_option maxRecDepth 8000 in
theorem sg_233_4 {d : Nat} {I : XI} {L : XL} {D : GD} {post : XQ}  {u1 : Int} {u2 : Int} {u3 : XV} {u4 : XV} (h : ((0 ≤ (4 : Int) ∧ (4 : Int) < (102 : Int)) ∧ (((-2147483648 ≤ u2 ∧ u2 ≤ 2147483647) ∧ (-2147483648 ≤ (I 111 (4 : Int)) ∧ (I 111 (4 : Int)) ≤ 2147483647)) ∧ (((I 111 (4 : Int)) ≤ u2 → (((-2147483648 ≤ u1 ∧ u1 ≤ 2147483647) ∧ (-2147483648 ≤ (I 101 (29 : Int)) ∧ (I 101 (29 : Int)) ≤ 2147483647)) ∧ (((I 101 (29 : Int)) < u1 → xR d 233 es_233 58 [xr (some 101), xi u1, xi (0 : Int), u3, u4] [] (xwr I 101 (29 : Int) u1) L (gG D) 0 0 post) ∧ (u1 ≤ (I 101 (29 : Int)) → post none I L (gG D))))) ∧ (u2 < (I 111 (4 : Int)) → xR d 233 es_233 14 [xr (some 101), xi u1, xi u2, xi (0 : Int), xi (0 : Int)] [] I L (gG D) 0 0 post))))) : xR d 233 es_233 4 [xr (some 101), xi u1, xi u2, u3, u4] [] I L (gG D) 0 0 post := xW_R (fun k => Nat.beq k 4 || Nat.beq k 14 || Nat.beq k 30 || Nat.beq k 58) 15 _ _ _ _ _ _ _ _ _ _ _ _ h
set_option maxRecDepth 8000 in
theorem b_233a {d : Nat} {I : XI} {L : XL} {D : GD} {post : XQ}   {le : Int} {g : Int} {x3 : XV} {x4 : XV} (hd : 0 ≤ d) (h : (((-2147483648 ≤ g ∧ g ≤ 2147483647) ∧ (-2147483648 ≤ (I 111 (4 : Int)) ∧ (I 111 (4 : Int)) ≤ 2147483647)) ∧ (((I 111 (4 : Int)) ≤ g → (((-2147483648 ≤ le ∧ le ≤ 2147483647) ∧ (-2147483648 ≤ (I 101 (29 : Int)) ∧ (I 101 (29 : Int)) ≤ 2147483647)) ∧ (((I 101 (29 : Int)) < le → xR d 233 es_233 58 [xr (some 101), xi le, xi (0 : Int), x3, x4] [] (xsc I 101 (xup (I 101) (29 : Int) le)) L (gG D) 0 0 post) ∧ (le ≤ (I 101 (29 : Int)) → post none I L (gG D))))) ∧ (g < (I 111 (4 : Int)) → xR d 233 es_233 14 [xr (some 101), xi le, xi g, xi (0 : Int), xi (0 : Int)] [] I L (gG D) 0 0 post)))) : xR d 233 es_233 4 [xr (some 101), xi le, xi g, x3, x4] [] I L (gG D) 0 0 post := sg_233_4  (⟨(by decide), ⟨⟨h.1.1, h.1.2⟩, ⟨fun q3099 => ⟨⟨(h.2.1 q3099).1.1, (h.2.1 q3099).1.2⟩, ⟨fun q3097 => ((h.2.1 q3099).2.1 q3097), fun q3098 => ((h.2.1 q3099).2.2 q3098)⟩⟩, fun q3100 => (h.2.2 q3100)⟩⟩⟩)
set_option maxRecDepth 8000 in
theorem sg_233_14 {d : Nat} {I : XI} {L : XL} {D : GD} {post : XQ}  {u1 : Int} {u2 : Int} {u3 : Int} {u4 : Int} (h : ((0 ≤ (3 : Int) ∧ (3 : Int) < (102 : Int)) ∧ (((-2147483648 ≤ u4 ∧ u4 ≤ 2147483647) ∧ (-2147483648 ≤ (I 111 (3 : Int)) ∧ (I 111 (3 : Int)) ≤ 2147483647)) ∧ (((I 111 (3 : Int)) ≤ u4 → ((-2147483648 ≤ u1 ∧ u1 ≤ 2147483647) ∧ ((u1 < 0 → xR d 233 es_233 4 [xr (some 101), xi u3, xi (u2 + (1 : Int)), xi u3, xi u4] [] I L (gG D) 0 0 post) ∧ (0 ≤ u1 → (((-2147483648 ≤ u3 ∧ u3 ≤ 2147483647) ∧ (-2147483648 ≤ u1 ∧ u1 ≤ 2147483647)) ∧ ((u1 ≤ u3 → xR d 233 es_233 4 [xr (some 101), xi u1, xi (u2 + (1 : Int)), xi u3, xi u4] [] I L (gG D) 0 0 post) ∧ (u3 < u1 → xR d 233 es_233 4 [xr (some 101), xi u3, xi (u2 + (1 : Int)), xi u3, xi u4] [] I L (gG D) 0 0 post))))))) ∧ (u4 < (I 111 (3 : Int)) → ((0 ≤ u4 ∧ u4 < (11 : Int)) ∧ (((-2147483648 ≤ (I 114 u4) ∧ (I 114 u4) ≤ 2147483647) ∧ (-2147483648 ≤ u2 ∧ u2 ≤ 2147483647)) ∧ ((¬ (I 114 u4) = u2 → xR d 233 es_233 14 [xr (some 101), xi u1, xi u2, xi (u3 + (0 : Int)), xi (u4 + (1 : Int))] [] I L (gG D) 0 0 post) ∧ ((I 114 u4) = u2 → xR d 233 es_233 30 [xr (some 101), xi u1, xi u2, xi u3, xi u4] [xi u4, xi u2, xr (some 101), xi u3] I L (gG D) 0 0 post))))))))) : xR d 233 es_233 14 [xr (some 101), xi u1, xi u2, xi u3, xi u4] [] I L (gG D) 0 0 post := xW_R (fun k => Nat.beq k 4 || Nat.beq k 14 || Nat.beq k 30 || Nat.beq k 58) 18 _ _ _ _ _ _ _ _ _ _ _ _ h
set_option maxRecDepth 8000 in
theorem sg_233_31 {d : Nat} {I : XI} {L : XL} {D : GD} {post : XQ}  {u1 : Int} {u2 : Int} {u3 : Int} {u4 : Int} {w0 : Int} {w1 : Int} (h : xR d 233 es_233 14 [xr (some 101), xi u1, xi u2, xi (w0 + w1), xi (u4 + (1 : Int))] [] I L (gG D) 0 0 post) : xR d 233 es_233 31 [xr (some 101), xi u1, xi u2, xi u3, xi u4] [xi w1, xi w0] I L (gG D) 0 0 post := xW_R (fun k => Nat.beq k 4 || Nat.beq k 14 || Nat.beq k 30 || Nat.beq k 58) 5 _ _ _ _ _ _ _ _ _ _ _ _ h
set_option maxRecDepth 8000 in
theorem b_233b {d : Nat} {I : XI} {L : XL} {D : GD} {post : XQ}   {le : Int} {g : Int} {n : Int} {s : Int} (hd : 2 ≤ d) (h : (((-2147483648 ≤ s ∧ s ≤ 2147483647) ∧ (-2147483648 ≤ (I 111 (3 : Int)) ∧ (I 111 (3 : Int)) ≤ 2147483647)) ∧ (((I 111 (3 : Int)) ≤ s → (((-2147483648 ≤ le ∧ le ≤ 2147483647)) ∧ ((le < 0 → xR d 233 es_233 4 [xr (some 101), xi n, xi (g + (1 : Int)), xi n, xi s] [] I L (gG D) 0 0 post) ∧ (0 ≤ le → (((-2147483648 ≤ n ∧ n ≤ 2147483647)) ∧ ((le ≤ n → xR d 233 es_233 4 [xr (some 101), xi le, xi (g + (1 : Int)), xi n, xi s] [] I L (gG D) 0 0 post) ∧ (n < le → xR d 233 es_233 4 [xr (some 101), xi n, xi (g + (1 : Int)), xi n, xi s] [] I L (gG D) 0 0 post))))))) ∧ (s < (I 111 (3 : Int)) → (((0 ≤ s ∧ s < (11 : Int))) ∧ (((-2147483648 ≤ (I 114 s) ∧ (I 114 s) ≤ 2147483647) ∧ (-2147483648 ≤ g ∧ g ≤ 2147483647)) ∧ ((¬ (I 114 s) = g → xR d 233 es_233 14 [xr (some 101), xi le, xi g, xi (n + (0 : Int)), xi (s + (1 : Int))] [] I L (gG D) 0 0 post) ∧ ((I 114 s) = g → ((SO (I 111) ∧ (0 ≤ g ∧ g < 5) ∧ (0 ≤ s ∧ s < 10)) ∧ xR d 233 es_233 14 [xr (some 101), xi le, xi g, xi (n + (pw (I 111) g s)), xi (s + (1 : Int))] [] I L (gG D) 0 0 post))))))))) : xR d 233 es_233 14 [xr (some 101), xi le, xi g, xi n, xi s] [] I L (gG D) 0 0 post := sg_233_14  (⟨(by decide), ⟨⟨h.1.1, h.1.2⟩, ⟨fun q3107 => ⟨(h.2.1 q3107).1, ⟨fun q3103 => ((h.2.1 q3107).2.1 q3103), fun q3104 => ⟨⟨((h.2.1 q3107).2.2 q3104).1, (h.2.1 q3107).1⟩, ⟨fun q3101 => (((h.2.1 q3107).2.2 q3104).2.1 q3101), fun q3102 => (((h.2.1 q3107).2.2 q3104).2.2 q3102)⟩⟩⟩⟩, fun q3108 => ⟨(h.2.2 q3108).1, ⟨⟨(h.2.2 q3108).2.1.1, (h.2.2 q3108).2.1.2⟩, ⟨fun q3105 => ((h.2.2 q3108).2.2.1 q3105), fun q3106 => (xR_cF rfl rfl rfl (c_196 ((h.2.2 q3108).2.2.2 q3106).1) (by omega) (sg_233_31  ((h.2.2 q3108).2.2.2 q3106).2))⟩⟩⟩⟩⟩⟩)
set_option maxRecDepth 8000 in
theorem sg_233_58 {d : Nat} {I : XI} {L : XL} {D : GD} {post : XQ}  {u1 : Int} {u2 : Int} {u3 : XV} {u4 : XV} (h : ((0 ≤ (3 : Int) ∧ (3 : Int) < (102 : Int)) ∧ (((-2147483648 ≤ u2 ∧ u2 ≤ 2147483647) ∧ (-2147483648 ≤ (I 111 (3 : Int)) ∧ (I 111 (3 : Int)) ≤ 2147483647)) ∧ (((I 111 (3 : Int)) ≤ u2 → post none I L (gG D)) ∧ (u2 < (I 111 (3 : Int)) → ((0 ≤ u2 ∧ u2 < (11 : Int)) ∧ ((0 ≤ u2 ∧ u2 < (11 : Int)) ∧ xR d 233 es_233 58 [xr (some 101), xi u1, xi (u2 + (1 : Int)), u3, u4] [] (xwr I 115 u2 (I 114 u2)) L (gG D) 0 0 post))))))) : xR d 233 es_233 58 [xr (some 101), xi u1, xi u2, u3, u4] [] I L (gG D) 0 0 post := xW_R (fun k => Nat.beq k 4 || Nat.beq k 14 || Nat.beq k 30 || Nat.beq k 58) 16 _ _ _ _ _ _ _ _ _ _ _ _ h
set_option maxRecDepth 8000 in
theorem b_233c {d : Nat} {I : XI} {L : XL} {D : GD} {post : XQ} {cl : Int} {B : Int → Int}  {le : Int} {s : Int} {x3 : XV} {x4 : XV} (hd : 0 ≤ d) (h : (((-2147483648 ≤ s ∧ s ≤ 2147483647) ∧ (-2147483648 ≤ (I 111 (3 : Int)) ∧ (I 111 (3 : Int)) ≤ 2147483647)) ∧ (((I 111 (3 : Int)) ≤ s → post none (xsc (xsc I 101 (xup (I 101) (29 : Int) cl)) 115 B) L (gG D)) ∧ (s < (I 111 (3 : Int)) → (((0 ≤ s ∧ s < (11 : Int))) ∧ xR d 233 es_233 58 [xr (some 101), xi le, xi (s + (1 : Int)), x3, x4] [] (xsc (xsc I 101 (xup (I 101) (29 : Int) cl)) 115 (xup B s (I 114 s))) L (gG D) 0 0 post))))) : xR d 233 es_233 58 [xr (some 101), xi le, xi s, x3, x4] [] (xsc (xsc I 101 (xup (I 101) (29 : Int) cl)) 115 B) L (gG D) 0 0 post := sg_233_58  (⟨(by decide), ⟨⟨h.1.1, h.1.2⟩, ⟨fun q3109 => (h.2.1 q3109), fun q3110 => ⟨(h.2.2 q3110).1, ⟨(h.2.2 q3110).1, (xR_memc (h.2.2 q3110).2 (funext fun i => (xpt rfl (fun h115_ => (xpt rfl (fun h101_ => (by simp only [xsc_ne _ _ h101_, xwr_ne _ _ _ h101_, xsc_ne _ _ h115_, xwr_ne _ _ _ h115_])))))) rfl)⟩⟩⟩⟩⟩)
theorem c_233 {I : XI} {L : XL} {D : GD}    (h : (SO (I 111) ∧ PIN (I 114) (I 111 (3 : Int)) ∧ (-2147483648 ≤ (I 101 (29 : Int)) ∧ (I 101 (29 : Int)) ≤ 2147483647))) : xM 2 233 [xr (some 101)] I L (gG D) (0, 0) (xD none (xsc (xsc I 101 (xup (I 101) (29 : Int) ((rkp (I 111) (I 114) (I 101 (29 : Int), (I 115))).1))) 115 ((rkp (I 111) (I 114) (I 101 (29 : Int), (I 115))).2)) L (gG D)) := by
  intro d hd
  obtain ⟨hS, h1, h2⟩ := h
  have hn := hS.n
  have hg := hS.g
  refine w_233 (by omega) ?_
  have keyc : ∀ k : Nat, k ≤ (I 111 3).toNat → ∀ x3 x4 : XV, ¬ (plst (I 111) (I 114) (I 111 4).toNat) ≤ I 101 29 → xR d 233 es_233 58 [xr (some 101), xi (plst (I 111) (I 114) (I 111 4).toNat), xi (k : Int), x3, x4] [] (xsc (xsc I 101 (xup (I 101) (29 : Int) (plst (I 111) (I 114) (I 111 4).toNat))) 115 (xcp (I 114) (I 115) 0 0 (k : Int))) L (gG D) 0 0 (xD none (xsc (xsc I 101 (xup (I 101) (29 : Int) ((rkp (I 111) (I 114) (I 101 (29 : Int), (I 115))).1))) 115 ((rkp (I 111) (I 114) (I 101 (29 : Int), (I 115))).2)) L (gG D)) := by
    refine xfor ?_ ?_
    · intro x3 x4 hq
      refine b_233c (by omega) ?_
      repeat' first | (with_reducible intro _) | (with_reducible refine And.intro ?_ ?_)
      all_goals first | omega | skip
      unfold rkp
      rw [if_neg hq, show (((I 111 3).toNat : Nat) : Int) = I 111 3 by omega]
      exact xD_in
    · intro k hk ih x3 x4 hq
      have e := xcp_step (f := I 114) (g := I 115) (sp := 0) (dp := 0) (k := (k : Int)) (by omega)
      rw [Int.zero_add] at e
      refine b_233c (by omega) ?_
      repeat' first | (with_reducible intro _) | (with_reducible refine And.intro ?_ ?_)
      all_goals first | omega | skip
      rw [e]
      exact ih _ _ hq
  have keyb : ∀ (g : Nat), g < (I 111 4).toNat → (∀ x3 x4 : XV, xR d 233 es_233 4 [xr (some 101), xi (plst (I 111) (I 114) (g + 1)), xi ((g : Int) + 1), x3, x4] [] I L (gG D) 0 0 (xD none (xsc (xsc I 101 (xup (I 101) (29 : Int) ((rkp (I 111) (I 114) (I 101 (29 : Int), (I 115))).1))) 115 ((rkp (I 111) (I 114) (I 101 (29 : Int), (I 115))).2)) L (gG D))) → xR d 233 es_233 14 [xr (some 101), xi (plst (I 111) (I 114) g), xi (g : Int), xi 0, xi 0] [] I L (gG D) 0 0 (xD none (xsc (xsc I 101 (xup (I 101) (29 : Int) ((rkp (I 111) (I 114) (I 101 (29 : Int), (I 115))).1))) 115 ((rkp (I 111) (I 114) (I 101 (29 : Int), (I 115))).2)) L (gG D)) := by
    intro g hgl hc
    have hr := plst_rg (p := I 114) hS g (by omega)
    have key : ∀ k : Nat, k ≤ (I 111 3).toNat → xR d 233 es_233 14 [xr (some 101), xi (plst (I 111) (I 114) g), xi (g : Int), xi (psm (I 111) (I 114) (g : Int) k), xi (k : Int)] [] I L (gG D) 0 0 (xD none (xsc (xsc I 101 (xup (I 101) (29 : Int) ((rkp (I 111) (I 114) (I 101 (29 : Int), (I 115))).1))) 115 ((rkp (I 111) (I 114) (I 101 (29 : Int), (I 115))).2)) L (gG D)) := by
      refine xfor ?_ ?_
      · have hr2 := psm_rg (p := I 114) hS (g := (g : Int)) (by omega) (by omega) (I 111 3).toNat (by omega)
        have e : plst (I 111) (I 114) (g + 1) = if plst (I 111) (I 114) g < 0 ∨ psm (I 111) (I 114) (g : Int) (I 111 3).toNat < plst (I 111) (I 114) g then psm (I 111) (I 114) (g : Int) (I 111 3).toNat else plst (I 111) (I 114) g := rfl
        rw [e] at hc
        refine b_233b (by omega) ?_
        repeat' first | (with_reducible intro _) | (with_reducible refine And.intro ?_ ?_)
        all_goals first | omega | skip
        all_goals first
          | (rw [if_pos (by omega)] at hc; exact hc _ _)
          | (rw [if_neg (by omega)] at hc; exact hc _ _)
      · intro k hk ih
        have hp := h1 (k : Int) (by omega) (by omega)
        have e : psm (I 111) (I 114) (g : Int) (k + 1) = psm (I 111) (I 114) (g : Int) k + (if I 114 (k : Int) = (g : Int) then pw (I 111) (g : Int) (k : Int) else 0) := rfl
        rw [e] at ih
        have hG : SO (I 111) ∧ (0 ≤ (g : Int) ∧ (g : Int) < 5) ∧ (0 ≤ (k : Int) ∧ (k : Int) < 10) := ⟨hS, by omega, by omega⟩
        refine b_233b (by omega) ?_
        repeat' first | (with_reducible intro _) | (with_reducible refine And.intro ?_ ?_)
        all_goals first | omega | assumption | skip
        all_goals first
          | (rw [if_pos (by assumption)] at ih; exact ih)
          | (rw [if_neg (by assumption)] at ih; exact ih)
    exact key 0 (Nat.zero_le _)
  have keya : ∀ g : Nat, g ≤ (I 111 4).toNat → ∀ x3 x4 : XV, xR d 233 es_233 4 [xr (some 101), xi (plst (I 111) (I 114) g), xi (g : Int), x3, x4] [] I L (gG D) 0 0 (xD none (xsc (xsc I 101 (xup (I 101) (29 : Int) ((rkp (I 111) (I 114) (I 101 (29 : Int), (I 115))).1))) 115 ((rkp (I 111) (I 114) (I 101 (29 : Int), (I 115))).2)) L (gG D)) := by
    refine xfor ?_ ?_
    · intro x3 x4
      have hr := plst_rg (p := I 114) hS (I 111 4).toNat (by omega)
      refine b_233a (by omega) ?_
      repeat' first | (with_reducible intro _) | (with_reducible refine And.intro ?_ ?_)
      all_goals first | omega | skip
      · exact xR_memc (keyc 0 (Nat.zero_le _) x3 x4 (by omega)) (by (funext i; by_cases h101 : i = 101; (subst h101; first | rfl | exact (xcp_zero _ _ _ _).symm | exact (xup_self _ _).symm | exact (xup_self2 _ _ _).symm | exact (xup_self3 _ _ _ _).symm | exact xup_self _ _); by_cases h115 : i = 115; (subst h115; first | rfl | exact (xcp_zero _ _ _ _).symm | exact (xup_self _ _).symm | exact (xup_self2 _ _ _).symm | exact (xup_self3 _ _ _ _).symm | exact xup_self _ _); first | rfl | simp only [xsc_ne _ _ h101, xsc_ne _ _ h115])) rfl
      · unfold rkp
        rw [if_pos (by assumption)]
        exact xD_eq rfl (by (funext i; by_cases h101 : i = 101; (subst h101; first | rfl | exact (xcp_zero _ _ _ _).symm | exact (xup_self _ _).symm | exact (xup_self2 _ _ _).symm | exact (xup_self3 _ _ _ _).symm | exact xup_self _ _); by_cases h115 : i = 115; (subst h115; first | rfl | exact (xcp_zero _ _ _ _).symm | exact (xup_self _ _).symm | exact (xup_self2 _ _ _).symm | exact (xup_self3 _ _ _ _).symm | exact xup_self _ _); first | rfl | simp only [xsc_ne _ _ h101, xsc_ne _ _ h115])) rfl
    · intro g hgl ih x3 x4
      refine b_233a (by omega) ?_
      repeat' first | (with_reducible intro _) | (with_reducible refine And.intro ?_ ?_)
      all_goals first | omega | skip
      exact keyb g hgl ih
  exact keya 0 (Nat.zero_le _) _ _
