theorem xlcm_rg (a b : Int64) : -2147483648 ≤ xlcm a b ∧ xlcm a b ≤ 2147483647 := by
  unfold xlcm
  split
  · decide
  · split <;> decide
theorem xt_rg (x : Int32) : -2147483648 ≤ x.toInt ∧ x.toInt ≤ 2147483647 := ⟨by have := Int32.le_toInt x; omega, by have := Int32.toInt_lt x; omega⟩
/-! pure words over the row 'said' -/
/-- what a row 'said' is at any time -/
def SO (a : Int → Int) : Prop := (0 ≤ a 3 ∧ a 3 ≤ 10) ∧ (0 ≤ a 4 ∧ a 4 ≤ 5) ∧ (a 0 = 0 ∨ a 0 = 1) ∧ (0 ≤ a 1 ∧ a 1 ≤ 4) ∧ (0 ≤ a 2 ∧ a 2 ≤ 9) ∧ (0 ≤ a 10 ∧ a 10 ≤ 2000) ∧ (∀ s, 0 ≤ s → s < 10 → -1 ≤ a (11 + s) ∧ (a (11 + s) < a 4 ∨ (a 3 = 0 ∧ a (11 + s) = 0))) ∧ (∀ g, 0 ≤ g → g < 5 → 0 ≤ a (21 + g) ∧ a (21 + g) ≤ 99) ∧ (∀ s, 0 ≤ s → s < 10 → 0 ≤ a (26 + s) ∧ a (26 + s) ≤ 3) ∧ (∀ s, 0 ≤ s → s < 10 → 0 ≤ a (36 + s) ∧ a (36 + s) ≤ 9) ∧ (∀ g, 0 ≤ g → g < 5 → 0 ≤ a (46 + g) ∧ a (46 + g) ≤ 99) ∧ (∀ j, 0 ≤ j → j < 20 → 0 ≤ a (51 + j) ∧ a (51 + j) ≤ 9)
theorem SO.n {a : Int → Int} (h : SO a) : 0 ≤ a 3 ∧ a 3 ≤ 10 := h.1
theorem SO.g {a : Int → Int} (h : SO a) : 0 ≤ a 4 ∧ a 4 ≤ 5 := h.2.1
theorem SO.f {a : Int → Int} (h : SO a) : a 0 = 0 ∨ a 0 = 1 := h.2.2.1
theorem SO.first {a : Int → Int} (h : SO a) : 0 ≤ a 1 ∧ a 1 ≤ 4 := h.2.2.2.1
theorem SO.stir {a : Int → Int} (h : SO a) : 0 ≤ a 2 ∧ a 2 ≤ 9 := h.2.2.2.2.1
theorem SO.turn {a : Int → Int} (h : SO a) : 0 ≤ a 10 ∧ a 10 ≤ 2000 := h.2.2.2.2.2.1
theorem SO.w {a : Int → Int} (h : SO a) {s : Int} (h0 : 0 ≤ s) (h1 : s < 10) : -1 ≤ a (11 + s) ∧ (a (11 + s) < a 4 ∨ (a 3 = 0 ∧ a (11 + s) = 0)) := h.2.2.2.2.2.2.1 s h0 h1
theorem SO.r {a : Int → Int} (h : SO a) {g : Int} (h0 : 0 ≤ g) (h1 : g < 5) : 0 ≤ a (21 + g) ∧ a (21 + g) ≤ 99 := h.2.2.2.2.2.2.2.1 g h0 h1
theorem SO.k {a : Int → Int} (h : SO a) {s : Int} (h0 : 0 ≤ s) (h1 : s < 10) : 0 ≤ a (26 + s) ∧ a (26 + s) ≤ 3 := h.2.2.2.2.2.2.2.2.1 s h0 h1
theorem SO.z {a : Int → Int} (h : SO a) {s : Int} (h0 : 0 ≤ s) (h1 : s < 10) : 0 ≤ a (36 + s) ∧ a (36 + s) ≤ 9 := h.2.2.2.2.2.2.2.2.2.1 s h0 h1
theorem SO.t {a : Int → Int} (h : SO a) {g : Int} (h0 : 0 ≤ g) (h1 : g < 5) : 0 ≤ a (46 + g) ∧ a (46 + g) ≤ 99 := h.2.2.2.2.2.2.2.2.2.2.1 g h0 h1
theorem SO.l {a : Int → Int} (h : SO a) {j : Int} (h0 : 0 ≤ j) (h1 : j < 20) : 0 ≤ a (51 + j) ∧ a (51 + j) ≤ 9 := h.2.2.2.2.2.2.2.2.2.2.2 j h0 h1
def pl (a : Int → Int) (g s : Int) : Int := a (51 + 4 * g + a (26 + s))
def pw (a : Int → Int) (g s : Int) : Int := a (36 + s) * pl a g s
/-- slices of a guest among the first n -/
def psl (a : Int → Int) (g : Int) : Nat → Int
  | 0 => 0
  | n + 1 => xior (psl a g n) (if a (11 + (n : Int)) = g then xshl 1 (n : Int) else 0)
/-- worth of a set among the first n -/
def pws (a : Int → Int) (g set : Int) : Nat → Int
  | 0 => 0
  | n + 1 => pws a g set n + (if xand (xshr set (n : Int)) 1 = 1 then pw a g (n : Int) else 0)
def pslices (a : Int → Int) (g : Int) : Int := psl a g (a 3).toNat
def pworths (a : Int → Int) (g set : Int) : Int := pws a g set (a 3).toNat
def phas (a : Int → Int) (g : Int) : Int := pworths a g (pslices a g)
def pcont (a : Int → Int) : Nat → Int
  | 0 => 0
  | n + 1 => xior (pcont a n) (if a (21 + (n : Int)) ≤ phas a (n : Int) then xshl 1 (n : Int) else 0)
def pcontent (a : Int → Int) : Int := pcont a (a 4).toNat
def pwhose (a : Int → Int) : Int := if a 4 = 0 then -1 else Int.tmod (a 1 + a 10) (a 4)
theorem pl_rg {a : Int → Int} (h : SO a) {g s : Int} (g0 : 0 ≤ g) (g1 : g < 5) (s0 : 0 ≤ s) (s1 : s < 10) : 0 ≤ pl a g s ∧ pl a g s ≤ 9 := by
  have hk := h.k s0 s1
  have := h.l (j := 4 * g + a (26 + s)) (by omega) (by omega)
  unfold pl
  rwa [show 51 + 4 * g + a (26 + s) = 51 + (4 * g + a (26 + s)) by omega]
theorem pw_rg {a : Int → Int} (h : SO a) {g s : Int} (g0 : 0 ≤ g) (g1 : g < 5) (s0 : 0 ≤ s) (s1 : s < 10) : 0 ≤ pw a g s ∧ pw a g s ≤ 81 := by
  have h1 := pl_rg h g0 g1 s0 s1
  have h2 := h.z s0 s1
  unfold pw
  refine ⟨Int.mul_nonneg h2.1 h1.1, ?_⟩
  exact Int.le_trans (Int.mul_le_mul h2.2 h1.2 h1.1 (by omega)) (by decide)
theorem pws_rg {a : Int → Int} (h : SO a) {g set : Int} (g0 : 0 ≤ g) (g1 : g < 5) : ∀ n : Nat, n ≤ 10 → 0 ≤ pws a g set n ∧ pws a g set n ≤ 81 * (n : Int) := by
  intro n
  induction n with
  | zero => intro _; exact ⟨Int.le_refl _, Int.le_refl _⟩
  | succ n ih =>
    intro hn
    have h1 := ih (by omega)
    have h2 := pw_rg h g0 g1 (s := (n : Int)) (by omega) (by omega)
    unfold pws
    split <;> omega
theorem phas_rg {a : Int → Int} (h : SO a) {g : Int} (g0 : 0 ≤ g) (g1 : g < 5) : 0 ≤ phas a g ∧ phas a g ≤ 810 := by
  have hn := h.n
  have := pws_rg h g0 g1 (set := pslices a g) (a 3).toNat (by omega)
  unfold phas pworths
  omega
/-- down from the end -/
theorem xfor {P : Nat → Prop} {N : Nat} (hend : P N) (hstep : ∀ k, k < N → P (k + 1) → P k) : ∀ k, k ≤ N → P k := by
  have : ∀ j k, k + j = N → P k := by
    intro j
    induction j with
    | zero => intro k hk; rw [show k = N by omega]; exact hend
    | succ j ih => intro k hk; exact hstep k (by omega) (ih (k + 1) (by omega))
  exact fun k hk => this (N - k) k (by omega)
theorem xih {P : Int → Prop} {k : Nat} (h : P ((k + 1 : Nat) : Int)) : P ((k : Int) + 1) := h
set_option maxRecDepth 8000 in
theorem sg_192_0 {d : Nat} {I : XI} {L : XL} {D : GD} {post : XQ}   (h : ((0 ≤ (0 : Int) ∧ (0 : Int) < (102 : Int)) ∧ (((-2147483648 ≤ (I 111 (0 : Int)) ∧ (I 111 (0 : Int)) ≤ 2147483647) ∧ (-2147483648 ≤ (1 : Int) ∧ (1 : Int) ≤ 2147483647)) ∧ ((¬ (I 111 (0 : Int)) = (1 : Int) → (((0 : Int) = 0 ∨ (0 : Int) = 1) ∧ post (some (xi (0 : Int))) I L (gG D))) ∧ ((I 111 (0 : Int)) = (1 : Int) → (((1 : Int) = 0 ∨ (1 : Int) = 1) ∧ post (some (xi (1 : Int))) I L (gG D))))))) : xR d 192 es_192 0 [xr (some 101)] [] I L (gG D) 0 0 post := xW_R (fun k => false) 9 _ _ _ _ _ _ _ _ _ _ _ _ h
set_option maxRecDepth 8000 in
theorem w_192 {d : Nat} {I : XI} {L : XL} {D : GD} {post : XQ}    (hd : 0 ≤ d) (h : (((-2147483648 ≤ (I 111 (0 : Int)) ∧ (I 111 (0 : Int)) ≤ 2147483647)) ∧ ((¬ (I 111 (0 : Int)) = (1 : Int) → post (some (xi (0 : Int))) I L (gG D)) ∧ ((I 111 (0 : Int)) = (1 : Int) → post (some (xi (1 : Int))) I L (gG D))))) : xR d 192 es_192 0 [xr (some 101)] [] I L (gG D) 0 0 post := sg_192_0  (⟨(by decide), ⟨⟨h.1, (by decide)⟩, ⟨fun q1 => ⟨(by decide), (h.2.1 q1)⟩, fun q2 => ⟨(by decide), (h.2.2 q2)⟩⟩⟩⟩)
theorem c_192 {I : XI} {L : XL} {D : GD}    (h : SO (I 111)) : xM 0 192 [xr (some 101)] I L (gG D) (0, 0) (xD (some (xi (xb (I 111 (0 : Int) = 1)))) I L (gG D)) := by
  intro d hd
  have hf := h.f
  refine w_192 (by omega) ?_
  repeat' first | (with_reducible intro _) | (with_reducible refine And.intro ?_ ?_)
  all_goals first | omega | exact xD_in | assumption | (refine xD_eq ?_ rfl rfl; first | rfl | rw [xb_t (by omega)] | rw [xb_f (by omega)] | (rw [xb_t (by assumption)]) | (rw [xb_f (by assumption)]) | (rw [xb_t (by simp_all; done)]) | (rw [xb_f (by simp_all; done)]))
set_option maxRecDepth 8000 in
theorem sg_193_0 {d : Nat} {I : XI} {L : XL} {D : GD} {post : XQ}  {u1 : Int} (h : ((-2147483648 ≤ u1 ∧ u1 ≤ 2147483647) ∧ ((u1 < 0 → (((0 : Int) = 0 ∨ (0 : Int) = 1) ∧ post (some (xi (0 : Int))) I L (gG D))) ∧ (0 ≤ u1 → ((0 ≤ (3 : Int) ∧ (3 : Int) < (102 : Int)) ∧ (((-2147483648 ≤ u1 ∧ u1 ≤ 2147483647) ∧ (-2147483648 ≤ (I 111 (3 : Int)) ∧ (I 111 (3 : Int)) ≤ 2147483647)) ∧ (((I 111 (3 : Int)) ≤ u1 → (((0 : Int) = 0 ∨ (0 : Int) = 1) ∧ post (some (xi (0 : Int))) I L (gG D))) ∧ (u1 < (I 111 (3 : Int)) → (((1 : Int) = 0 ∨ (1 : Int) = 1) ∧ post (some (xi (1 : Int))) I L (gG D)))))))))) : xR d 193 es_193 0 [xr (some 101), xi u1] [] I L (gG D) 0 0 post := xW_R (fun k => false) 11 _ _ _ _ _ _ _ _ _ _ _ _ h
set_option maxRecDepth 8000 in
theorem w_193 {d : Nat} {I : XI} {L : XL} {D : GD} {post : XQ}   {s : Int} (hd : 0 ≤ d) (h : (((-2147483648 ≤ s ∧ s ≤ 2147483647)) ∧ ((s < 0 → post (some (xi (0 : Int))) I L (gG D)) ∧ (0 ≤ s → (((-2147483648 ≤ (I 111 (3 : Int)) ∧ (I 111 (3 : Int)) ≤ 2147483647)) ∧ (((I 111 (3 : Int)) ≤ s → post (some (xi (0 : Int))) I L (gG D)) ∧ (s < (I 111 (3 : Int)) → post (some (xi (1 : Int))) I L (gG D)))))))) : xR d 193 es_193 0 [xr (some 101), xi s] [] I L (gG D) 0 0 post := sg_193_0  (⟨h.1, ⟨fun q5 => ⟨(by decide), (h.2.1 q5)⟩, fun q6 => ⟨(by decide), ⟨⟨h.1, (h.2.2 q6).1⟩, ⟨fun q3 => ⟨(by decide), ((h.2.2 q6).2.1 q3)⟩, fun q4 => ⟨(by decide), ((h.2.2 q6).2.2 q4)⟩⟩⟩⟩⟩⟩)
theorem c_193 {I : XI} {L : XL} {D : GD}   {s : Int} (h : (SO (I 111) ∧ (-2147483648 ≤ s ∧ s ≤ 2147483647))) : xM 0 193 [xr (some 101), xi s] I L (gG D) (0, 0) (xD (some (xi (xb (0 ≤ s ∧ s < I 111 (3 : Int))))) I L (gG D)) := by
  intro d hd
  have hn := h.1.n
  have hs := h.2
  refine w_193 (by omega) ?_
  repeat' first | (with_reducible intro _) | (with_reducible refine And.intro ?_ ?_)
  all_goals first | omega | exact xD_in | assumption | (refine xD_eq ?_ rfl rfl; first | rfl | rw [xb_t (by omega)] | rw [xb_f (by omega)] | (rw [xb_t (by assumption)]) | (rw [xb_f (by assumption)]) | (rw [xb_t (by simp_all; done)]) | (rw [xb_f (by simp_all; done)]))
set_option maxRecDepth 8000 in
theorem sg_194_0 {d : Nat} {I : XI} {L : XL} {D : GD} {post : XQ}  {u1 : Int} (h : ((-2147483648 ≤ u1 ∧ u1 ≤ 2147483647) ∧ ((u1 < 0 → (((0 : Int) = 0 ∨ (0 : Int) = 1) ∧ post (some (xi (0 : Int))) I L (gG D))) ∧ (0 ≤ u1 → ((0 ≤ (4 : Int) ∧ (4 : Int) < (102 : Int)) ∧ (((-2147483648 ≤ u1 ∧ u1 ≤ 2147483647) ∧ (-2147483648 ≤ (I 111 (4 : Int)) ∧ (I 111 (4 : Int)) ≤ 2147483647)) ∧ (((I 111 (4 : Int)) ≤ u1 → (((0 : Int) = 0 ∨ (0 : Int) = 1) ∧ post (some (xi (0 : Int))) I L (gG D))) ∧ (u1 < (I 111 (4 : Int)) → (((1 : Int) = 0 ∨ (1 : Int) = 1) ∧ post (some (xi (1 : Int))) I L (gG D)))))))))) : xR d 194 es_194 0 [xr (some 101), xi u1] [] I L (gG D) 0 0 post := xW_R (fun k => false) 11 _ _ _ _ _ _ _ _ _ _ _ _ h
set_option maxRecDepth 8000 in
theorem w_194 {d : Nat} {I : XI} {L : XL} {D : GD} {post : XQ}   {g : Int} (hd : 0 ≤ d) (h : (((-2147483648 ≤ g ∧ g ≤ 2147483647)) ∧ ((g < 0 → post (some (xi (0 : Int))) I L (gG D)) ∧ (0 ≤ g → (((-2147483648 ≤ (I 111 (4 : Int)) ∧ (I 111 (4 : Int)) ≤ 2147483647)) ∧ (((I 111 (4 : Int)) ≤ g → post (some (xi (0 : Int))) I L (gG D)) ∧ (g < (I 111 (4 : Int)) → post (some (xi (1 : Int))) I L (gG D)))))))) : xR d 194 es_194 0 [xr (some 101), xi g] [] I L (gG D) 0 0 post := sg_194_0  (⟨h.1, ⟨fun q9 => ⟨(by decide), (h.2.1 q9)⟩, fun q10 => ⟨(by decide), ⟨⟨h.1, (h.2.2 q10).1⟩, ⟨fun q7 => ⟨(by decide), ((h.2.2 q10).2.1 q7)⟩, fun q8 => ⟨(by decide), ((h.2.2 q10).2.2 q8)⟩⟩⟩⟩⟩⟩)
theorem c_194 {I : XI} {L : XL} {D : GD}   {g : Int} (h : (SO (I 111) ∧ (-2147483648 ≤ g ∧ g ≤ 2147483647))) : xM 0 194 [xr (some 101), xi g] I L (gG D) (0, 0) (xD (some (xi (xb (0 ≤ g ∧ g < I 111 (4 : Int))))) I L (gG D)) := by
  intro d hd
  have hn := h.1.g
  have hs := h.2
  refine w_194 (by omega) ?_
  repeat' first | (with_reducible intro _) | (with_reducible refine And.intro ?_ ?_)
  all_goals first | omega | exact xD_in | assumption | (refine xD_eq ?_ rfl rfl; first | rfl | rw [xb_t (by omega)] | rw [xb_f (by omega)] | (rw [xb_t (by assumption)]) | (rw [xb_f (by assumption)]) | (rw [xb_t (by simp_all; done)]) | (rw [xb_f (by simp_all; done)]))
set_option maxRecDepth 8000 in
theorem sg_148_0 {d : Nat} {I : XI} {L : XL} {D : GD} {post : XQ}  {u0 : Int} {u1 : Int} (h : (((-2147483648 ≤ (xand (xshr u0 u1) (1 : Int)) ∧ (xand (xshr u0 u1) (1 : Int)) ≤ 2147483647) ∧ (-2147483648 ≤ (1 : Int) ∧ (1 : Int) ≤ 2147483647)) ∧ ((¬ (xand (xshr u0 u1) (1 : Int)) = (1 : Int) → (((0 : Int) = 0 ∨ (0 : Int) = 1) ∧ post (some (xi (0 : Int))) I L (gG D))) ∧ ((xand (xshr u0 u1) (1 : Int)) = (1 : Int) → (((1 : Int) = 0 ∨ (1 : Int) = 1) ∧ post (some (xi (1 : Int))) I L (gG D)))))) : xR d 148 es_148 0 [xi u0, xi u1] [] I L (gG D) 0 0 post := xW_R (fun k => false) 10 _ _ _ _ _ _ _ _ _ _ _ _ h
set_option maxRecDepth 8000 in
theorem w_148 {d : Nat} {I : XI} {L : XL} {D : GD} {post : XQ}   {s : Int} {k : Int} (hd : 0 ≤ d) (h : (((¬ (xand (xshr s k) (1 : Int)) = (1 : Int) → post (some (xi (0 : Int))) I L (gG D)) ∧ ((xand (xshr s k) (1 : Int)) = (1 : Int) → post (some (xi (1 : Int))) I L (gG D))))) : xR d 148 es_148 0 [xi s, xi k] [] I L (gG D) 0 0 post := sg_148_0  (⟨⟨(xt_rg _), (by decide)⟩, ⟨fun q11 => ⟨(by decide), (h.1 q11)⟩, fun q12 => ⟨(by decide), (h.2 q12)⟩⟩⟩)
theorem c_148 {I : XI} {L : XL} {D : GD}   {s : Int} {k : Int} : xM 0 148 [xi s, xi k] I L (gG D) (0, 0) (xD (some (xi (xb (xand (xshr s k) (1 : Int) = (1 : Int))))) I L (gG D)) := by
  intro d hd
  refine w_148 (by omega) ?_
  repeat' first | (with_reducible intro _) | (with_reducible refine And.intro ?_ ?_)
  all_goals first | omega | exact xD_in | assumption | (refine xD_eq ?_ rfl rfl; first | rfl | rw [xb_t (by omega)] | rw [xb_f (by omega)] | (rw [xb_t (by assumption)]) | (rw [xb_f (by assumption)]) | (rw [xb_t (by simp_all; done)]) | (rw [xb_f (by simp_all; done)]))
set_option maxRecDepth 8000 in
theorem sg_195_0 {d : Nat} {I : XI} {L : XL} {D : GD} {post : XQ}  {u1 : Int} {u2 : Int} (h : ((0 ≤ ((26 : Int) + u2) ∧ ((26 : Int) + u2) < (102 : Int)) ∧ ((0 ≤ (((51 : Int) + ((4 : Int) * u1)) + (I 111 ((26 : Int) + u2))) ∧ (((51 : Int) + ((4 : Int) * u1)) + (I 111 ((26 : Int) + u2))) < (102 : Int)) ∧ post (some (xi (I 111 (((51 : Int) + ((4 : Int) * u1)) + (I 111 ((26 : Int) + u2)))))) I L (gG D)))) : xR d 195 es_195 0 [xr (some 101), xi u1, xi u2] [] I L (gG D) 0 0 post := xW_R (fun k => false) 16 _ _ _ _ _ _ _ _ _ _ _ _ h
set_option maxRecDepth 8000 in
theorem w_195 {d : Nat} {I : XI} {L : XL} {D : GD} {post : XQ}   {g : Int} {s : Int} (hd : 0 ≤ d) (h : (((0 ≤ ((26 : Int) + s) ∧ ((26 : Int) + s) < (102 : Int))) ∧ (((0 ≤ (((51 : Int) + ((4 : Int) * g)) + (I 111 ((26 : Int) + s))) ∧ (((51 : Int) + ((4 : Int) * g)) + (I 111 ((26 : Int) + s))) < (102 : Int))) ∧ post (some (xi (I 111 (((51 : Int) + ((4 : Int) * g)) + (I 111 ((26 : Int) + s)))))) I L (gG D)))) : xR d 195 es_195 0 [xr (some 101), xi g, xi s] [] I L (gG D) 0 0 post := sg_195_0  (⟨h.1, ⟨h.2.1, h.2.2⟩⟩)
theorem c_195 {I : XI} {L : XL} {D : GD}   {g : Int} {s : Int} (h : (SO (I 111) ∧ (0 ≤ g ∧ g < 5) ∧ (0 ≤ s ∧ s < 10))) : xM 0 195 [xr (some 101), xi g, xi s] I L (gG D) (0, 0) (xD (some (xi (pl (I 111) g s))) I L (gG D)) := by
  intro d hd
  obtain ⟨hS, hg, hs⟩ := h
  have hk := hS.k hs.1 hs.2
  refine w_195 (by omega) ?_
  repeat' first | (with_reducible intro _) | (with_reducible refine And.intro ?_ ?_)
  all_goals first | omega | exact xD_in | assumption | (refine xD_eq ?_ rfl rfl; first | rfl | rw [xb_t (by omega)] | rw [xb_f (by omega)] | (rw [xb_t (by assumption)]) | (rw [xb_f (by assumption)]) | (rw [xb_t (by simp_all; done)]) | (rw [xb_f (by simp_all; done)]))
set_option maxRecDepth 8000 in
theorem sg_196_0 {d : Nat} {I : XI} {L : XL} {D : GD} {post : XQ}  {u1 : Int} {u2 : Int} (h : ((0 ≤ ((36 : Int) + u2) ∧ ((36 : Int) + u2) < (102 : Int)) ∧ xR d 196 es_196 9 [xr (some 101), xi u1, xi u2] [xi u2, xi u1, xr (some 101), xi (I 111 ((36 : Int) + u2))] I L (gG D) 0 0 post)) : xR d 196 es_196 0 [xr (some 101), xi u1, xi u2] [] I L (gG D) 0 0 post := xW_R (fun k => Nat.beq k 9) 9 _ _ _ _ _ _ _ _ _ _ _ _ h
set_option maxRecDepth 8000 in
theorem sg_196_10 {d : Nat} {I : XI} {L : XL} {D : GD} {post : XQ}  {u1 : Int} {u2 : Int} {w0 : Int} {w1 : Int} (h : post (some (xi (w0 * w1))) I L (gG D)) : xR d 196 es_196 10 [xr (some 101), xi u1, xi u2] [xi w1, xi w0] I L (gG D) 0 0 post := xW_R (fun k => Nat.beq k 9) 2 _ _ _ _ _ _ _ _ _ _ _ _ h
set_option maxRecDepth 8000 in
theorem w_196 {d : Nat} {I : XI} {L : XL} {D : GD} {post : XQ}   {g : Int} {s : Int} (hd : 1 ≤ d) (h : (((0 ≤ ((36 : Int) + s) ∧ ((36 : Int) + s) < (102 : Int))) ∧ ((SO (I 111) ∧ (0 ≤ g ∧ g < 5) ∧ (0 ≤ s ∧ s < 10)) ∧ post (some (xi ((I 111 ((36 : Int) + s)) * (pl (I 111) g s)))) I L (gG D)))) : xR d 196 es_196 0 [xr (some 101), xi g, xi s] [] I L (gG D) 0 0 post := sg_196_0  (⟨h.1, (xR_cF rfl rfl rfl (c_195 h.2.1) (by omega) (sg_196_10  h.2.2))⟩)
theorem c_196 {I : XI} {L : XL} {D : GD}   {g : Int} {s : Int} (h : (SO (I 111) ∧ (0 ≤ g ∧ g < 5) ∧ (0 ≤ s ∧ s < 10))) : xM 1 196 [xr (some 101), xi g, xi s] I L (gG D) (0, 0) (xD (some (xi (pw (I 111) g s))) I L (gG D)) := by
  intro d hd
  refine w_196 (by omega) ?_
  exact ⟨by have := h.2.2; omega, h, xD_in⟩
set_option maxRecDepth 8000 in
theorem sg_197_0 {d : Nat} {I : XI} {L : XL} {D : GD} {post : XQ}  {u1 : Int} (h : xR d 197 es_197 4 [xr (some 101), xi u1, xi (0 : Int), xi (0 : Int)] [] I L (gG D) 0 0 post) : xR d 197 es_197 0 [xr (some 101), xi u1, xt 0, xt 0] [] I L (gG D) 0 0 post := xW_R (fun k => Nat.beq k 4) 4 _ _ _ _ _ _ _ _ _ _ _ _ h
set_option maxRecDepth 8000 in
theorem w_197 {d : Nat} {I : XI} {L : XL} {D : GD} {post : XQ}   {g : Int} (hd : 0 ≤ d) (h : xR d 197 es_197 4 [xr (some 101), xi g, xi (0 : Int), xi (0 : Int)] [] I L (gG D) 0 0 post) : xR d 197 es_197 0 [xr (some 101), xi g, xt 0, xt 0] [] I L (gG D) 0 0 post := sg_197_0  (h)
set_option maxRecDepth 8000 in
theorem sg_197_4 {d : Nat} {I : XI} {L : XL} {D : GD} {post : XQ}  {u1 : Int} {u2 : Int} {u3 : Int} (h : ((0 ≤ (3 : Int) ∧ (3 : Int) < (102 : Int)) ∧ (((-2147483648 ≤ u3 ∧ u3 ≤ 2147483647) ∧ (-2147483648 ≤ (I 111 (3 : Int)) ∧ (I 111 (3 : Int)) ≤ 2147483647)) ∧ (((I 111 (3 : Int)) ≤ u3 → post (some (xi u2)) I L (gG D)) ∧ (u3 < (I 111 (3 : Int)) → ((0 ≤ ((11 : Int) + u3) ∧ ((11 : Int) + u3) < (102 : Int)) ∧ (((-2147483648 ≤ (I 111 ((11 : Int) + u3)) ∧ (I 111 ((11 : Int) + u3)) ≤ 2147483647) ∧ (-2147483648 ≤ u1 ∧ u1 ≤ 2147483647)) ∧ ((¬ (I 111 ((11 : Int) + u3)) = u1 → xR d 197 es_197 4 [xr (some 101), xi u1, xi (xior u2 (0 : Int)), xi (u3 + (1 : Int))] [] I L (gG D) 0 0 post) ∧ ((I 111 ((11 : Int) + u3)) = u1 → xR d 197 es_197 4 [xr (some 101), xi u1, xi (xior u2 (xshl (1 : Int) u3)), xi (u3 + (1 : Int))] [] I L (gG D) 0 0 post))))))))) : xR d 197 es_197 4 [xr (some 101), xi u1, xi u2, xi u3] [] I L (gG D) 0 0 post := xW_R (fun k => Nat.beq k 4) 23 _ _ _ _ _ _ _ _ _ _ _ _ h
set_option maxRecDepth 8000 in
theorem b_197 {d : Nat} {I : XI} {L : XL} {D : GD} {post : XQ}   {g : Int} {u : Int} {v : Int} (hd : 0 ≤ d) (h : (((-2147483648 ≤ v ∧ v ≤ 2147483647) ∧ (-2147483648 ≤ (I 111 (3 : Int)) ∧ (I 111 (3 : Int)) ≤ 2147483647)) ∧ (((I 111 (3 : Int)) ≤ v → post (some (xi u)) I L (gG D)) ∧ (v < (I 111 (3 : Int)) → (((0 ≤ ((11 : Int) + v) ∧ ((11 : Int) + v) < (102 : Int))) ∧ (((-2147483648 ≤ (I 111 ((11 : Int) + v)) ∧ (I 111 ((11 : Int) + v)) ≤ 2147483647) ∧ (-2147483648 ≤ g ∧ g ≤ 2147483647)) ∧ ((¬ (I 111 ((11 : Int) + v)) = g → xR d 197 es_197 4 [xr (some 101), xi g, xi (xior u (0 : Int)), xi (v + (1 : Int))] [] I L (gG D) 0 0 post) ∧ ((I 111 ((11 : Int) + v)) = g → xR d 197 es_197 4 [xr (some 101), xi g, xi (xior u (xshl (1 : Int) v)), xi (v + (1 : Int))] [] I L (gG D) 0 0 post)))))))) : xR d 197 es_197 4 [xr (some 101), xi g, xi u, xi v] [] I L (gG D) 0 0 post := sg_197_4  (⟨(by decide), ⟨⟨h.1.1, h.1.2⟩, ⟨fun q15 => (h.2.1 q15), fun q16 => ⟨(h.2.2 q16).1, ⟨⟨(h.2.2 q16).2.1.1, (h.2.2 q16).2.1.2⟩, ⟨fun q13 => ((h.2.2 q16).2.2.1 q13), fun q14 => ((h.2.2 q16).2.2.2 q14)⟩⟩⟩⟩⟩⟩)
theorem c_197 {I : XI} {L : XL} {D : GD}   {g : Int} (h : (SO (I 111) ∧ (-2147483648 ≤ g ∧ g ≤ 2147483647))) : xM 0 197 [xr (some 101), xi g] I L (gG D) (0, 0) (xD (some (xi (pslices (I 111) g))) I L (gG D)) := by
  intro d hd
  obtain ⟨hS, hg⟩ := h
  have hn := hS.n
  have hg4 := hS.g
  refine w_197 (by omega) ?_
  refine xfor (P := fun k => xR d 197 es_197 4 [xr (some 101), xi g, xi (psl (I 111) g k), xi (k : Int)] [] I L (gG D) 0 0 (xD (some (xi (pslices (I 111) g))) I L (gG D))) (N := (I 111 3).toNat) ?_ ?_ 0 (Nat.zero_le _)
  · refine b_197 (by omega) ?_
    repeat' first | (with_reducible intro _) | (with_reducible refine And.intro ?_ ?_)
    all_goals first | omega | assumption | exact xD_in
  · intro k hk ih
    have hw := hS.w (s := (k : Int)) (by omega) (by omega)
    refine b_197 (by omega) ?_
    repeat' first | (with_reducible intro _) | (with_reducible refine And.intro ?_ ?_)
    all_goals first | omega | assumption | skip
    all_goals (have e : psl (I 111) g (k + 1) = xior (psl (I 111) g k) (if I 111 (11 + (k : Int)) = g then xshl 1 (k : Int) else 0) := rfl)
    all_goals first | (rename_i hq; rw [if_neg hq] at e; rw [← e]; exact ih) | (rename_i hq; rw [if_pos hq] at e; rw [← e]; exact ih) | (rw [← e]; exact ih)
set_option maxRecDepth 8000 in
theorem sg_198_0 {d : Nat} {I : XI} {L : XL} {D : GD} {post : XQ}  {u1 : Int} {u2 : Int} (h : xR d 198 es_198 4 [xr (some 101), xi u1, xi u2, xi (0 : Int), xi (0 : Int)] [] I L (gG D) 0 0 post) : xR d 198 es_198 0 [xr (some 101), xi u1, xi u2, xt 0, xt 0] [] I L (gG D) 0 0 post := xW_R (fun k => Nat.beq k 4 || Nat.beq k 13 || Nat.beq k 18) 4 _ _ _ _ _ _ _ _ _ _ _ _ h
set_option maxRecDepth 8000 in
theorem w_198 {d : Nat} {I : XI} {L : XL} {D : GD} {post : XQ}   {g : Int} {set : Int} (hd : 0 ≤ d) (h : xR d 198 es_198 4 [xr (some 101), xi g, xi set, xi (0 : Int), xi (0 : Int)] [] I L (gG D) 0 0 post) : xR d 198 es_198 0 [xr (some 101), xi g, xi set, xt 0, xt 0] [] I L (gG D) 0 0 post := sg_198_0  (h)
set_option maxRecDepth 8000 in
theorem sg_198_4 {d : Nat} {I : XI} {L : XL} {D : GD} {post : XQ}  {u1 : Int} {u2 : Int} {u3 : Int} {u4 : Int} (h : ((0 ≤ (3 : Int) ∧ (3 : Int) < (102 : Int)) ∧ (((-2147483648 ≤ u4 ∧ u4 ≤ 2147483647) ∧ (-2147483648 ≤ (I 111 (3 : Int)) ∧ (I 111 (3 : Int)) ≤ 2147483647)) ∧ (((I 111 (3 : Int)) ≤ u4 → post (some (xi u3)) I L (gG D)) ∧ (u4 < (I 111 (3 : Int)) → xR d 198 es_198 13 [xr (some 101), xi u1, xi u2, xi u3, xi u4] [xi u4, xi u2, xi u3] I L (gG D) 0 0 post))))) : xR d 198 es_198 4 [xr (some 101), xi u1, xi u2, xi u3, xi u4] [] I L (gG D) 0 0 post := xW_R (fun k => Nat.beq k 4 || Nat.beq k 13 || Nat.beq k 18) 9 _ _ _ _ _ _ _ _ _ _ _ _ h
set_option maxRecDepth 8000 in
theorem sg_198_14 {d : Nat} {I : XI} {L : XL} {D : GD} {post : XQ}  {u1 : Int} {u2 : Int} {u3 : Int} {u4 : Int} {w0 : Int} {w1 : Int} (h : ((-2147483648 ≤ w1 ∧ w1 ≤ 2147483647) ∧ ((w1 = 0 → xR d 198 es_198 4 [xr (some 101), xi u1, xi u2, xi (w0 + (0 : Int)), xi (u4 + (1 : Int))] [] I L (gG D) 0 0 post) ∧ (¬ w1 = 0 → xR d 198 es_198 18 [xr (some 101), xi u1, xi u2, xi u3, xi u4] [xi u4, xi u1, xr (some 101), xi w0] I L (gG D) 0 0 post)))) : xR d 198 es_198 14 [xr (some 101), xi u1, xi u2, xi u3, xi u4] [xi w1, xi w0] I L (gG D) 0 0 post := xW_R (fun k => Nat.beq k 4 || Nat.beq k 13 || Nat.beq k 18) 6 _ _ _ _ _ _ _ _ _ _ _ _ h
set_option maxRecDepth 8000 in
theorem sg_198_19 {d : Nat} {I : XI} {L : XL} {D : GD} {post : XQ}  {u1 : Int} {u2 : Int} {u3 : Int} {u4 : Int} {w0 : Int} {w1 : Int} (h : xR d 198 es_198 4 [xr (some 101), xi u1, xi u2, xi (w0 + w1), xi (u4 + (1 : Int))] [] I L (gG D) 0 0 post) : xR d 198 es_198 19 [xr (some 101), xi u1, xi u2, xi u3, xi u4] [xi w1, xi w0] I L (gG D) 0 0 post := xW_R (fun k => Nat.beq k 4 || Nat.beq k 13 || Nat.beq k 18) 5 _ _ _ _ _ _ _ _ _ _ _ _ h
set_option maxRecDepth 8000 in
theorem b_198 {d : Nat} {I : XI} {L : XL} {D : GD} {post : XQ}   {g : Int} {set : Int} {u : Int} {v : Int} (hd : 2 ≤ d) (h : (((-2147483648 ≤ v ∧ v ≤ 2147483647) ∧ (-2147483648 ≤ (I 111 (3 : Int)) ∧ (I 111 (3 : Int)) ≤ 2147483647)) ∧ (((I 111 (3 : Int)) ≤ v → post (some (xi u)) I L (gG D)) ∧ (v < (I 111 (3 : Int)) → (((¬ (xand (xshr set v) (1 : Int) = (1 : Int)) → xR d 198 es_198 4 [xr (some 101), xi g, xi set, xi (u + (0 : Int)), xi (v + (1 : Int))] [] I L (gG D) 0 0 post) ∧ (xand (xshr set v) (1 : Int) = (1 : Int) → ((SO (I 111) ∧ (0 ≤ g ∧ g < 5) ∧ (0 ≤ v ∧ v < 10)) ∧ xR d 198 es_198 4 [xr (some 101), xi g, xi set, xi (u + (pw (I 111) g v)), xi (v + (1 : Int))] [] I L (gG D) 0 0 post)))))))) : xR d 198 es_198 4 [xr (some 101), xi g, xi set, xi u, xi v] [] I L (gG D) 0 0 post := sg_198_4  (⟨(by decide), ⟨⟨h.1.1, h.1.2⟩, ⟨fun q19 => (h.2.1 q19), fun q20 => (xR_cF rfl rfl rfl c_148 (by omega) (sg_198_14  ⟨(xb_rg _), ⟨fun q17 => ((h.2.2 q20).1 (xb_0 q17)), fun q18 => (xR_cF rfl rfl rfl (c_196 ((h.2.2 q20).2 (xb_n0 q18)).1) (by omega) (sg_198_19  ((h.2.2 q20).2 (xb_n0 q18)).2))⟩⟩))⟩⟩⟩)
theorem c_198 {I : XI} {L : XL} {D : GD}   {g : Int} {set : Int} (h : (SO (I 111) ∧ (0 ≤ g ∧ g < 5))) : xM 2 198 [xr (some 101), xi g, xi set] I L (gG D) (0, 0) (xD (some (xi (pworths (I 111) g set))) I L (gG D)) := by
  intro d hd
  obtain ⟨hS, hg⟩ := h
  have hn := hS.n
  refine w_198 (by omega) ?_
  refine xfor (P := fun k => xR d 198 es_198 4 [xr (some 101), xi g, xi set, xi (pws (I 111) g set k), xi (k : Int)] [] I L (gG D) 0 0 (xD (some (xi (pworths (I 111) g set))) I L (gG D))) (N := (I 111 3).toNat) ?_ ?_ 0 (Nat.zero_le _)
  · refine b_198 (by omega) ?_
    repeat' first | (with_reducible intro _) | (with_reducible refine And.intro ?_ ?_)
    all_goals first | omega | assumption | exact xD_in
  · intro k hk ih
    refine b_198 (by omega) ?_
    repeat' first | (with_reducible intro _) | (with_reducible refine And.intro ?_ ?_)
    all_goals first | omega | assumption | skip
    all_goals (have e : pws (I 111) g set (k + 1) = pws (I 111) g set k + (if xand (xshr set (k : Int)) 1 = 1 then pw (I 111) g (k : Int) else 0) := rfl)
    all_goals first | (rename_i hq; rw [if_neg hq] at e; rw [← e]; exact ih) | (rename_i hq; rw [if_pos hq] at e; rw [← e]; exact ih) | (rw [← e]; exact ih)
set_option maxRecDepth 8000 in
theorem sg_199_0 {d : Nat} {I : XI} {L : XL} {D : GD} {post : XQ}  {u1 : Int} (h : xR d 199 es_199 4 [xr (some 101), xi u1] [xi u1, xr (some 101), xi u1, xr (some 101)] I L (gG D) 0 0 post) : xR d 199 es_199 0 [xr (some 101), xi u1] [] I L (gG D) 0 0 post := xW_R (fun k => Nat.beq k 4 || Nat.beq k 5) 4 _ _ _ _ _ _ _ _ _ _ _ _ h
set_option maxRecDepth 8000 in
theorem sg_199_6 {d : Nat} {I : XI} {L : XL} {D : GD} {post : XQ}  {u1 : Int} {w0 : Int} (h : post (some (xi w0)) I L (gG D)) : xR d 199 es_199 6 [xr (some 101), xi u1] [xi w0] I L (gG D) 0 0 post := xW_R (fun k => Nat.beq k 4 || Nat.beq k 5) 1 _ _ _ _ _ _ _ _ _ _ _ _ h
set_option maxRecDepth 8000 in
theorem w_199 {d : Nat} {I : XI} {L : XL} {D : GD} {post : XQ}   {g : Int} (hd : 3 ≤ d) (h : ((SO (I 111) ∧ (-2147483648 ≤ g ∧ g ≤ 2147483647)) ∧ ((SO (I 111) ∧ (0 ≤ g ∧ g < 5)) ∧ post (some (xi (pworths (I 111) g (pslices (I 111) g)))) I L (gG D)))) : xR d 199 es_199 0 [xr (some 101), xi g] [] I L (gG D) 0 0 post := sg_199_0  ((xR_cF rfl rfl rfl (c_197 h.1) (by omega) (xR_cF rfl rfl rfl (c_198 h.2.1) (by omega) (sg_199_6  h.2.2))))
theorem c_199 {I : XI} {L : XL} {D : GD}   {g : Int} (h : (SO (I 111) ∧ (0 ≤ g ∧ g < 5))) : xM 3 199 [xr (some 101), xi g] I L (gG D) (0, 0) (xD (some (xi (phas (I 111) g))) I L (gG D)) := by
  intro d hd
  refine w_199 (by omega) ?_
  exact ⟨⟨h.1, by have := h.2; omega⟩, h, xD_in⟩
set_option maxRecDepth 8000 in
theorem sg_200_0 {d : Nat} {I : XI} {L : XL} {D : GD} {post : XQ}  {u1 : Int} (h : xR d 200 es_200 2 [xr (some 101), xi u1] [xi u1, xr (some 101)] I L (gG D) 0 0 post) : xR d 200 es_200 0 [xr (some 101), xi u1] [] I L (gG D) 0 0 post := xW_R (fun k => Nat.beq k 2) 2 _ _ _ _ _ _ _ _ _ _ _ _ h
set_option maxRecDepth 8000 in
theorem sg_200_3 {d : Nat} {I : XI} {L : XL} {D : GD} {post : XQ}  {u1 : Int} {w0 : Int} (h : ((0 ≤ ((21 : Int) + u1) ∧ ((21 : Int) + u1) < (102 : Int)) ∧ (((-2147483648 ≤ w0 ∧ w0 ≤ 2147483647) ∧ (-2147483648 ≤ (I 111 ((21 : Int) + u1)) ∧ (I 111 ((21 : Int) + u1)) ≤ 2147483647)) ∧ ((w0 < (I 111 ((21 : Int) + u1)) → (((0 : Int) = 0 ∨ (0 : Int) = 1) ∧ post (some (xi (0 : Int))) I L (gG D))) ∧ ((I 111 ((21 : Int) + u1)) ≤ w0 → (((1 : Int) = 0 ∨ (1 : Int) = 1) ∧ post (some (xi (1 : Int))) I L (gG D))))))) : xR d 200 es_200 3 [xr (some 101), xi u1] [xi w0] I L (gG D) 0 0 post := xW_R (fun k => Nat.beq k 2) 10 _ _ _ _ _ _ _ _ _ _ _ _ h
set_option maxRecDepth 8000 in
theorem w_200 {d : Nat} {I : XI} {L : XL} {D : GD} {post : XQ}   {g : Int} (hd : 4 ≤ d) (h : ((SO (I 111) ∧ (0 ≤ g ∧ g < 5)) ∧ (((0 ≤ ((21 : Int) + g) ∧ ((21 : Int) + g) < (102 : Int))) ∧ (((-2147483648 ≤ (phas (I 111) g) ∧ (phas (I 111) g) ≤ 2147483647) ∧ (-2147483648 ≤ (I 111 ((21 : Int) + g)) ∧ (I 111 ((21 : Int) + g)) ≤ 2147483647)) ∧ (((phas (I 111) g) < (I 111 ((21 : Int) + g)) → post (some (xi (0 : Int))) I L (gG D)) ∧ ((I 111 ((21 : Int) + g)) ≤ (phas (I 111) g) → post (some (xi (1 : Int))) I L (gG D))))))) : xR d 200 es_200 0 [xr (some 101), xi g] [] I L (gG D) 0 0 post := sg_200_0  ((xR_cF rfl rfl rfl (c_199 h.1) (by omega) (sg_200_3  ⟨h.2.1, ⟨⟨h.2.2.1.1, h.2.2.1.2⟩, ⟨fun q21 => ⟨(by decide), (h.2.2.2.1 q21)⟩, fun q22 => ⟨(by decide), (h.2.2.2.2 q22)⟩⟩⟩⟩)))
theorem c_200 {I : XI} {L : XL} {D : GD}   {g : Int} (h : (SO (I 111) ∧ (0 ≤ g ∧ g < 5))) : xM 4 200 [xr (some 101), xi g] I L (gG D) (0, 0) (xD (some (xi (xb (I 111 (21 + g) ≤ phas (I 111) g)))) I L (gG D)) := by
  intro d hd
  have hr := h.1.r h.2.1 h.2.2
  have hh := phas_rg h.1 h.2.1 h.2.2
  have h2 := h.2
  refine w_200 (by omega) ?_
  refine ⟨h, ?_⟩
  repeat' first | (with_reducible intro _) | (with_reducible refine And.intro ?_ ?_)
  all_goals first | omega | exact xD_in | assumption | (refine xD_eq ?_ rfl rfl; first | rfl | rw [xb_t (by omega)] | rw [xb_f (by omega)] | (rw [xb_t (by assumption)]) | (rw [xb_f (by assumption)]) | (rw [xb_t (by simp_all; done)]) | (rw [xb_f (by simp_all; done)]))
set_option maxRecDepth 8000 in
theorem sg_201_0 {d : Nat} {I : XI} {L : XL} {D : GD} {post : XQ}   (h : xR d 201 es_201 4 [xr (some 101), xi (0 : Int), xi (0 : Int)] [] I L (gG D) 0 0 post) : xR d 201 es_201 0 [xr (some 101), xt 0, xt 0] [] I L (gG D) 0 0 post := xW_R (fun k => Nat.beq k 4 || Nat.beq k 13) 4 _ _ _ _ _ _ _ _ _ _ _ _ h
set_option maxRecDepth 8000 in
theorem w_201 {d : Nat} {I : XI} {L : XL} {D : GD} {post : XQ}    (hd : 0 ≤ d) (h : xR d 201 es_201 4 [xr (some 101), xi (0 : Int), xi (0 : Int)] [] I L (gG D) 0 0 post) : xR d 201 es_201 0 [xr (some 101), xt 0, xt 0] [] I L (gG D) 0 0 post := sg_201_0  (h)
set_option maxRecDepth 8000 in
theorem sg_201_4 {d : Nat} {I : XI} {L : XL} {D : GD} {post : XQ}  {u1 : Int} {u2 : Int} (h : ((0 ≤ (4 : Int) ∧ (4 : Int) < (102 : Int)) ∧ (((-2147483648 ≤ u2 ∧ u2 ≤ 2147483647) ∧ (-2147483648 ≤ (I 111 (4 : Int)) ∧ (I 111 (4 : Int)) ≤ 2147483647)) ∧ (((I 111 (4 : Int)) ≤ u2 → post (some (xi u1)) I L (gG D)) ∧ (u2 < (I 111 (4 : Int)) → xR d 201 es_201 13 [xr (some 101), xi u1, xi u2] [xi u2, xr (some 101), xi u1] I L (gG D) 0 0 post))))) : xR d 201 es_201 4 [xr (some 101), xi u1, xi u2] [] I L (gG D) 0 0 post := xW_R (fun k => Nat.beq k 4 || Nat.beq k 13) 9 _ _ _ _ _ _ _ _ _ _ _ _ h
set_option maxRecDepth 8000 in
theorem sg_201_14 {d : Nat} {I : XI} {L : XL} {D : GD} {post : XQ}  {u1 : Int} {u2 : Int} {w0 : Int} {w1 : Int} (h : ((-2147483648 ≤ w1 ∧ w1 ≤ 2147483647) ∧ ((w1 = 0 → xR d 201 es_201 4 [xr (some 101), xi (xior w0 (0 : Int)), xi (u2 + (1 : Int))] [] I L (gG D) 0 0 post) ∧ (¬ w1 = 0 → xR d 201 es_201 4 [xr (some 101), xi (xior w0 (xshl (1 : Int) u2)), xi (u2 + (1 : Int))] [] I L (gG D) 0 0 post)))) : xR d 201 es_201 14 [xr (some 101), xi u1, xi u2] [xi w1, xi w0] I L (gG D) 0 0 post := xW_R (fun k => Nat.beq k 4 || Nat.beq k 13) 9 _ _ _ _ _ _ _ _ _ _ _ _ h
set_option maxRecDepth 8000 in
theorem b_201 {d : Nat} {I : XI} {L : XL} {D : GD} {post : XQ}   {u : Int} {v : Int} (hd : 5 ≤ d) (h : (((-2147483648 ≤ v ∧ v ≤ 2147483647) ∧ (-2147483648 ≤ (I 111 (4 : Int)) ∧ (I 111 (4 : Int)) ≤ 2147483647)) ∧ (((I 111 (4 : Int)) ≤ v → post (some (xi u)) I L (gG D)) ∧ (v < (I 111 (4 : Int)) → ((SO (I 111) ∧ (0 ≤ v ∧ v < 5)) ∧ (((¬ (I 111 (21 + v) ≤ phas (I 111) v) → xR d 201 es_201 4 [xr (some 101), xi (xior u (0 : Int)), xi (v + (1 : Int))] [] I L (gG D) 0 0 post) ∧ (I 111 (21 + v) ≤ phas (I 111) v → xR d 201 es_201 4 [xr (some 101), xi (xior u (xshl (1 : Int) v)), xi (v + (1 : Int))] [] I L (gG D) 0 0 post)))))))) : xR d 201 es_201 4 [xr (some 101), xi u, xi v] [] I L (gG D) 0 0 post := sg_201_4  (⟨(by decide), ⟨⟨h.1.1, h.1.2⟩, ⟨fun q25 => (h.2.1 q25), fun q26 => (xR_cF rfl rfl rfl (c_200 (h.2.2 q26).1) (by omega) (sg_201_14  ⟨(xb_rg _), ⟨fun q23 => ((h.2.2 q26).2.1 (xb_0 q23)), fun q24 => ((h.2.2 q26).2.2 (xb_n0 q24))⟩⟩))⟩⟩⟩)
theorem c_201 {I : XI} {L : XL} {D : GD}    (h : SO (I 111)) : xM 5 201 [xr (some 101)] I L (gG D) (0, 0) (xD (some (xi (pcontent (I 111)))) I L (gG D)) := by
  intro d hd
  have hS := h
  have hn := hS.g
  refine w_201 (by omega) ?_
  refine xfor (P := fun k => xR d 201 es_201 4 [xr (some 101), xi (pcont (I 111) k), xi (k : Int)] [] I L (gG D) 0 0 (xD (some (xi (pcontent (I 111)))) I L (gG D))) (N := (I 111 4).toNat) ?_ ?_ 0 (Nat.zero_le _)
  · refine b_201 (by omega) ?_
    repeat' first | (with_reducible intro _) | (with_reducible refine And.intro ?_ ?_)
    all_goals first | omega | assumption | exact xD_in
  · intro k hk ih
    refine b_201 (by omega) ?_
    repeat' first | (with_reducible intro _) | (with_reducible refine And.intro ?_ ?_)
    all_goals first | omega | assumption | skip
    all_goals (have e : pcont (I 111) (k + 1) = xior (pcont (I 111) k) (if I 111 (21 + (k : Int)) ≤ phas (I 111) (k : Int) then xshl 1 (k : Int) else 0) := rfl)
    all_goals first | (rename_i hq; rw [if_neg hq] at e; rw [← e]; exact ih) | (rename_i hq; rw [if_pos hq] at e; rw [← e]; exact ih) | (rw [← e]; exact ih)
set_option maxRecDepth 8000 in
theorem sg_209_0 {d : Nat} {I : XI} {L : XL} {D : GD} {post : XQ}   (h : ((0 ≤ (4 : Int) ∧ (4 : Int) < (102 : Int)) ∧ ((-2147483648 ≤ (I 111 (4 : Int)) ∧ (I 111 (4 : Int)) ≤ 2147483647) ∧ ((¬ (I 111 (4 : Int)) = 0 → ((0 ≤ (1 : Int) ∧ (1 : Int) < (102 : Int)) ∧ ((0 ≤ (10 : Int) ∧ (10 : Int) < (102 : Int)) ∧ ((0 ≤ (4 : Int) ∧ (4 : Int) < (102 : Int)) ∧ (((-2147483648 ≤ ((I 111 (1 : Int)) + (I 111 (10 : Int))) ∧ ((I 111 (1 : Int)) + (I 111 (10 : Int))) ≤ 2147483647) ∧ (-2147483648 ≤ (I 111 (4 : Int)) ∧ (I 111 (4 : Int)) ≤ 2147483647) ∧ ¬ (I 111 (4 : Int)) = 0) ∧ post (some (xi (Int.tmod ((I 111 (1 : Int)) + (I 111 (10 : Int))) (I 111 (4 : Int))))) I L (gG D)))))) ∧ ((I 111 (4 : Int)) = 0 → post (some (xi (-1 : Int))) I L (gG D)))))) : xR d 209 es_209 0 [xr (some 101)] [] I L (gG D) 0 0 post := xW_R (fun k => false) 20 _ _ _ _ _ _ _ _ _ _ _ _ h
set_option maxRecDepth 8000 in
theorem w_209 {d : Nat} {I : XI} {L : XL} {D : GD} {post : XQ}    (hd : 0 ≤ d) (h : (((-2147483648 ≤ (I 111 (4 : Int)) ∧ (I 111 (4 : Int)) ≤ 2147483647)) ∧ ((¬ (I 111 (4 : Int)) = 0 → (((-2147483648 ≤ ((I 111 (1 : Int)) + (I 111 (10 : Int))) ∧ ((I 111 (1 : Int)) + (I 111 (10 : Int))) ≤ 2147483647) ∧ ¬ (I 111 (4 : Int)) = 0) ∧ post (some (xi (Int.tmod ((I 111 (1 : Int)) + (I 111 (10 : Int))) (I 111 (4 : Int))))) I L (gG D))) ∧ ((I 111 (4 : Int)) = 0 → post (some (xi (-1 : Int))) I L (gG D))))) : xR d 209 es_209 0 [xr (some 101)] [] I L (gG D) 0 0 post := sg_209_0  (⟨(by decide), ⟨h.1, ⟨fun q27 => ⟨(by decide), ⟨(by decide), ⟨(by decide), ⟨⟨(h.2.1 q27).1.1, h.1, (h.2.1 q27).1.2⟩, (h.2.1 q27).2⟩⟩⟩⟩, fun q28 => (h.2.2 q28)⟩⟩⟩)
theorem c_209 {I : XI} {L : XL} {D : GD}    (h : SO (I 111)) : xM 0 209 [xr (some 101)] I L (gG D) (0, 0) (xD (some (xi (pwhose (I 111)))) I L (gG D)) := by
  intro d hd
  have hg := h.g
  have hf := h.first
  have ht := h.turn
  refine w_209 (by omega) ?_
  repeat' first | (with_reducible intro _) | (with_reducible refine And.intro ?_ ?_)
  all_goals first | omega | exact xD_in | (refine xD_eq ?_ rfl rfl; unfold pwhose; first | rw [if_pos (by assumption)] | rw [if_neg (by assumption)]) | assumption | (refine xD_eq ?_ rfl rfl; first | rfl | rw [xb_t (by omega)] | rw [xb_f (by omega)] | (rw [xb_t (by assumption)]) | (rw [xb_f (by assumption)]) | (rw [xb_t (by simp_all; done)]) | (rw [xb_f (by simp_all; done)]))
