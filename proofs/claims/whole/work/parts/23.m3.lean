/-! the memory's laws -/
theorem xm1 {α : Type} (F : Nat → Int → α) (c : Nat) (j : Int) (v w : α) : xwr (xwr F c j v) c j w = xwr F c j w := by
  funext i
  by_cases h : i = c
  · subst h
    rw [xwr_same, xwr_same, xwr_same]
    funext k
    by_cases hk : k = j
    · subst hk; rw [xup_same, xup_same]
    · rw [xup_ne _ _ hk, xup_ne _ _ hk, xup_ne _ _ hk]
  · rw [xwr_ne _ _ _ h, xwr_ne _ _ _ h, xwr_ne _ _ _ h]
theorem xm2 {α : Type} (F : Nat → Int → α) (c : Nat) (j : Int) (v : α) : xwr F c j v c j = v := by rw [xwr_same, xup_same]
theorem xm4 {α : Type} (F : Nat → Int → α) (c : Nat) (f : Int → α) (j : Int) (v : α) : xwr (xsc F c f) c j v = xsc F c (xup f j v) := by
  funext i
  by_cases h : i = c
  · subst h; rw [xwr_same, xsc_same, xsc_same]
  · rw [xwr_ne _ _ _ h, xsc_ne _ _ h, xsc_ne _ _ h]
theorem xm5 {α : Type} (F : Nat → α) (c : Nat) (f g : α) : xsc (xsc F c f) c g = xsc F c g := by
  funext i
  by_cases h : i = c
  · subst h; rw [xsc_same, xsc_same]
  · rw [xsc_ne _ _ h, xsc_ne _ _ h, xsc_ne _ _ h]
theorem xm6 {α : Type} (F : Nat → α) (c : Nat) : xsc F c (F c) = F := by
  funext i
  by_cases h : i = c
  · subst h; rw [xsc_same]
  · rw [xsc_ne _ _ h]
/-! compares of longs -/
theorem xl_lt (x y : Int64) : xlcm x y < 0 ↔ x < y := by
  unfold xlcm
  simp only [Int64.lt_iff_toInt_lt, ← Int64.toInt_inj]
  split
  · omega
  · split <;> omega
theorem xl_eq (x y : Int64) : xlcm x y = 0 ↔ x = y := by
  unfold xlcm
  simp only [Int64.lt_iff_toInt_lt, ← Int64.toInt_inj]
  split
  · omega
  · split <;> omega
theorem xl_gt (x y : Int64) : 0 < xlcm x y ↔ y < x := by
  unfold xlcm
  simp only [Int64.lt_iff_toInt_lt, ← Int64.toInt_inj]
  split
  · omega
  · split <;> omega
theorem xl_le (x y : Int64) : xlcm x y ≤ 0 ↔ x ≤ y := by
  unfold xlcm
  simp only [Int64.lt_iff_toInt_lt, Int64.le_iff_toInt_le, ← Int64.toInt_inj]
  split
  · omega
  · split <;> omega
theorem xl_ge (x y : Int64) : 0 ≤ xlcm x y ↔ y ≤ x := by
  unfold xlcm
  simp only [Int64.lt_iff_toInt_lt, Int64.le_iff_toInt_le, ← Int64.toInt_inj]
  split
  · omega
  · split <;> omega
/-- two values joined, by the reference's numbers -/
def pone (s : Int) (x y : Int64) : Int64 := if s = 2 then x + y else if s = 3 then x - y else if s = 4 then x * y else if s = 5 then (if y = 0 then 0 else x / y) else if s = 6 then (if x < y then 1 else 0) else if s = 7 then (if x ≤ y then 1 else 0) else if s = 8 then (if x = y then 1 else 0) else if s = 9 then (if y ≤ x then 1 else 0) else if s = 10 then (if y < x then 1 else 0) else if s = 12 then x &&& y else if s = 14 then (if y = 0 then 0 else x - x / y * y) else x ||| y
theorem sg_190_0 {d : Nat} {I : XI} {L : XL} {D : GD} {post : XQ}  {u0 : Int} {u1 : Int64} {u3 : Int64} (h : ((-2147483648 ≤ u0 ∧ u0 ≤ 2147483647) ∧ ((u0 = (2 : Int) → post (some (xl (u1 + u3))) I L (gG D)) ∧ (¬ u0 = (2 : Int) → ((u0 = (3 : Int) → post (some (xl (u1 - u3))) I L (gG D)) ∧ (¬ u0 = (3 : Int) → ((u0 = (4 : Int) → post (some (xl (u1 * u3))) I L (gG D)) ∧ (¬ u0 = (4 : Int) → ((u0 = (5 : Int) → ((-2147483648 ≤ (xlcm u3 (0 : Int64)) ∧ (xlcm u3 (0 : Int64)) ≤ 2147483647) ∧ ((¬ (xlcm u3 (0 : Int64)) = 0 → ((¬ u3 = 0) ∧ post (some (xl (u1 / u3))) I L (gG D))) ∧ ((xlcm u3 (0 : Int64)) = 0 → post (some (xl (0 : Int64))) I L (gG D))))) ∧ (¬ u0 = (5 : Int) → ((u0 = (6 : Int) → ((-2147483648 ≤ (xlcm u1 u3) ∧ (xlcm u1 u3) ≤ 2147483647) ∧ ((0 ≤ (xlcm u1 u3) → post (some (xl (0 : Int64))) I L (gG D)) ∧ ((xlcm u1 u3) < 0 → post (some (xl (1 : Int64))) I L (gG D))))) ∧ (¬ u0 = (6 : Int) → ((u0 = (7 : Int) → ((-2147483648 ≤ (xlcm u1 u3) ∧ (xlcm u1 u3) ≤ 2147483647) ∧ ((0 < (xlcm u1 u3) → post (some (xl (0 : Int64))) I L (gG D)) ∧ ((xlcm u1 u3) ≤ 0 → post (some (xl (1 : Int64))) I L (gG D))))) ∧ (¬ u0 = (7 : Int) → ((u0 = (8 : Int) → ((-2147483648 ≤ (xlcm u1 u3) ∧ (xlcm u1 u3) ≤ 2147483647) ∧ ((¬ (xlcm u1 u3) = 0 → post (some (xl (0 : Int64))) I L (gG D)) ∧ ((xlcm u1 u3) = 0 → post (some (xl (1 : Int64))) I L (gG D))))) ∧ (¬ u0 = (8 : Int) → ((u0 = (9 : Int) → ((-2147483648 ≤ (xlcm u1 u3) ∧ (xlcm u1 u3) ≤ 2147483647) ∧ (((xlcm u1 u3) < 0 → post (some (xl (0 : Int64))) I L (gG D)) ∧ (0 ≤ (xlcm u1 u3) → post (some (xl (1 : Int64))) I L (gG D))))) ∧ (¬ u0 = (9 : Int) → ((u0 = (10 : Int) → ((-2147483648 ≤ (xlcm u1 u3) ∧ (xlcm u1 u3) ≤ 2147483647) ∧ (((xlcm u1 u3) ≤ 0 → post (some (xl (0 : Int64))) I L (gG D)) ∧ (0 < (xlcm u1 u3) → post (some (xl (1 : Int64))) I L (gG D))))) ∧ (¬ u0 = (10 : Int) → ((u0 = (11 : Int) → post (some (xl (u1 ||| u3))) I L (gG D)) ∧ (¬ u0 = (11 : Int) → ((u0 = (12 : Int) → post (some (xl (u1 &&& u3))) I L (gG D)) ∧ (¬ u0 = (12 : Int) → ((u0 = (13 : Int) → post (some (xl (u1 ||| u3))) I L (gG D)) ∧ (¬ u0 = (13 : Int) → ((u0 = (14 : Int) → ((-2147483648 ≤ (xlcm u3 (0 : Int64)) ∧ (xlcm u3 (0 : Int64)) ≤ 2147483647) ∧ ((¬ (xlcm u3 (0 : Int64)) = 0 → ((¬ u3 = 0) ∧ post (some (xl (u1 - u1 / u3 * u3))) I L (gG D))) ∧ ((xlcm u3 (0 : Int64)) = 0 → post (some (xl (0 : Int64))) I L (gG D))))) ∧ (¬ u0 = (14 : Int) → post (some (xl (u1 ||| u3))) I L (gG D))))))))))))))))))))))))))))) : xR d 190 es_190 0 [xi u0, xl u1, xt 0, xl u3, xt 0] [] I L (gG D) 0 0 post := xW_R (fun k => false) 10 _ _ _ _ _ _ _ _ _ _ _ _ h
theorem w_190 {d : Nat} {I : XI} {L : XL} {D : GD} {post : XQ}   {s : Int} {x : Int64} {y : Int64} (hd : 0 ≤ d) (h : (((-2147483648 ≤ s ∧ s ≤ 2147483647)) ∧ (((s = (2 : Int) → post (some (xl (x + y))) I L (gG D)) ∧ (¬ s = (2 : Int) → (((s = (3 : Int) → post (some (xl (x - y))) I L (gG D)) ∧ (¬ s = (3 : Int) → (((s = (4 : Int) → post (some (xl (x * y))) I L (gG D)) ∧ (¬ s = (4 : Int) → (((s = (5 : Int) → (((¬ (xlcm y (0 : Int64)) = 0 → ((¬ y = 0) ∧ post (some (xl (x / y))) I L (gG D))) ∧ ((xlcm y (0 : Int64)) = 0 → post (some (xl (0 : Int64))) I L (gG D))))) ∧ (¬ s = (5 : Int) → (((s = (6 : Int) → (((0 ≤ (xlcm x y) → post (some (xl (0 : Int64))) I L (gG D)) ∧ ((xlcm x y) < 0 → post (some (xl (1 : Int64))) I L (gG D))))) ∧ (¬ s = (6 : Int) → (((s = (7 : Int) → (((0 < (xlcm x y) → post (some (xl (0 : Int64))) I L (gG D)) ∧ ((xlcm x y) ≤ 0 → post (some (xl (1 : Int64))) I L (gG D))))) ∧ (¬ s = (7 : Int) → (((s = (8 : Int) → (((¬ (xlcm x y) = 0 → post (some (xl (0 : Int64))) I L (gG D)) ∧ ((xlcm x y) = 0 → post (some (xl (1 : Int64))) I L (gG D))))) ∧ (¬ s = (8 : Int) → (((s = (9 : Int) → ((((xlcm x y) < 0 → post (some (xl (0 : Int64))) I L (gG D)) ∧ (0 ≤ (xlcm x y) → post (some (xl (1 : Int64))) I L (gG D))))) ∧ (¬ s = (9 : Int) → (((s = (10 : Int) → ((((xlcm x y) ≤ 0 → post (some (xl (0 : Int64))) I L (gG D)) ∧ (0 < (xlcm x y) → post (some (xl (1 : Int64))) I L (gG D))))) ∧ (¬ s = (10 : Int) → (((s = (11 : Int) → post (some (xl (x ||| y))) I L (gG D)) ∧ (¬ s = (11 : Int) → (((s = (12 : Int) → post (some (xl (x &&& y))) I L (gG D)) ∧ (¬ s = (12 : Int) → (((s = (13 : Int) → post (some (xl (x ||| y))) I L (gG D)) ∧ (¬ s = (13 : Int) → (((s = (14 : Int) → (((¬ (xlcm y (0 : Int64)) = 0 → ((¬ y = 0) ∧ post (some (xl (x - x / y * y))) I L (gG D))) ∧ ((xlcm y (0 : Int64)) = 0 → post (some (xl (0 : Int64))) I L (gG D))))) ∧ (¬ s = (14 : Int) → post (some (xl (x ||| y))) I L (gG D)))))))))))))))))))))))))))))))))))))))))) : xR d 190 es_190 0 [xi s, xl x, xt 0, xl y, xt 0] [] I L (gG D) 0 0 post := sg_190_0  (⟨h.1, ⟨fun q69 => (h.2.1 q69), fun q70 => ⟨fun q67 => ((h.2.2 q70).1 q67), fun q68 => ⟨fun q65 => (((h.2.2 q70).2 q68).1 q65), fun q66 => ⟨fun q63 => ⟨(xlcm_rg _ _), ⟨fun q31 => ⟨(((((h.2.2 q70).2 q68).2 q66).1 q63).1 q31).1, (((((h.2.2 q70).2 q68).2 q66).1 q63).1 q31).2⟩, fun q32 => (((((h.2.2 q70).2 q68).2 q66).1 q63).2 q32)⟩⟩, fun q64 => ⟨fun q61 => ⟨(xlcm_rg _ _), ⟨fun q33 => ((((((h.2.2 q70).2 q68).2 q66).2 q64).1 q61).1 q33), fun q34 => ((((((h.2.2 q70).2 q68).2 q66).2 q64).1 q61).2 q34)⟩⟩, fun q62 => ⟨fun q59 => ⟨(xlcm_rg _ _), ⟨fun q35 => (((((((h.2.2 q70).2 q68).2 q66).2 q64).2 q62).1 q59).1 q35), fun q36 => (((((((h.2.2 q70).2 q68).2 q66).2 q64).2 q62).1 q59).2 q36)⟩⟩, fun q60 => ⟨fun q57 => ⟨(xlcm_rg _ _), ⟨fun q37 => ((((((((h.2.2 q70).2 q68).2 q66).2 q64).2 q62).2 q60).1 q57).1 q37), fun q38 => ((((((((h.2.2 q70).2 q68).2 q66).2 q64).2 q62).2 q60).1 q57).2 q38)⟩⟩, fun q58 => ⟨fun q55 => ⟨(xlcm_rg _ _), ⟨fun q39 => (((((((((h.2.2 q70).2 q68).2 q66).2 q64).2 q62).2 q60).2 q58).1 q55).1 q39), fun q40 => (((((((((h.2.2 q70).2 q68).2 q66).2 q64).2 q62).2 q60).2 q58).1 q55).2 q40)⟩⟩, fun q56 => ⟨fun q53 => ⟨(xlcm_rg _ _), ⟨fun q41 => ((((((((((h.2.2 q70).2 q68).2 q66).2 q64).2 q62).2 q60).2 q58).2 q56).1 q53).1 q41), fun q42 => ((((((((((h.2.2 q70).2 q68).2 q66).2 q64).2 q62).2 q60).2 q58).2 q56).1 q53).2 q42)⟩⟩, fun q54 => ⟨fun q51 => ((((((((((h.2.2 q70).2 q68).2 q66).2 q64).2 q62).2 q60).2 q58).2 q56).2 q54).1 q51), fun q52 => ⟨fun q49 => (((((((((((h.2.2 q70).2 q68).2 q66).2 q64).2 q62).2 q60).2 q58).2 q56).2 q54).2 q52).1 q49), fun q50 => ⟨fun q47 => ((((((((((((h.2.2 q70).2 q68).2 q66).2 q64).2 q62).2 q60).2 q58).2 q56).2 q54).2 q52).2 q50).1 q47), fun q48 => ⟨fun q45 => ⟨(xlcm_rg _ _), ⟨fun q43 => ⟨((((((((((((((h.2.2 q70).2 q68).2 q66).2 q64).2 q62).2 q60).2 q58).2 q56).2 q54).2 q52).2 q50).2 q48).1 q45).1 q43).1, ((((((((((((((h.2.2 q70).2 q68).2 q66).2 q64).2 q62).2 q60).2 q58).2 q56).2 q54).2 q52).2 q50).2 q48).1 q45).1 q43).2⟩, fun q44 => ((((((((((((((h.2.2 q70).2 q68).2 q66).2 q64).2 q62).2 q60).2 q58).2 q56).2 q54).2 q52).2 q50).2 q48).1 q45).2 q44)⟩⟩, fun q46 => (((((((((((((h.2.2 q70).2 q68).2 q66).2 q64).2 q62).2 q60).2 q58).2 q56).2 q54).2 q52).2 q50).2 q48).2 q46)⟩⟩⟩⟩⟩⟩⟩⟩⟩⟩⟩⟩⟩⟩)
theorem c_190 {I : XI} {L : XL} {D : GD} {s : Int} {x : Int64} {y : Int64} (h : (0 ≤ s ∧ s ≤ 15)) : xM 0 190 [xi s, xl x, xl y] I L (gG D) (0, 0) (xD (some (xl (pone s x y))) I L (gG D)) := by
  intro d hd
  refine w_190 (by omega) ?_
  repeat' first | (with_reducible intro _) | (with_reducible refine And.intro ?_ ?_)
  all_goals first | omega | skip
  all_goals first
    | (simp_all only [xl_lt, xl_eq, xl_gt, xl_le, xl_ge]; done)
    | (refine xD_eq ?_ rfl rfl; unfold pone; simp_all [xl_lt, xl_eq, xl_gt, xl_le, xl_ge]; done)
    | (refine xD_eq ?_ rfl rfl; unfold pone; simp only [xl_lt, xl_eq, xl_gt, xl_le, xl_ge] at *; simp_all; done)
    | skip
theorem sg_188_0 {d : Nat} {I : XI} {L : XL} {D : GD} {post : XQ}  {u1 : Int64} (h : ((0 ≤ (I 101 (18 : Int)) ∧ (I 101 (18 : Int)) < (64 : Int)) ∧ post none (xwr I 101 (18 : Int) ((I 101 (18 : Int)) + (1 : Int))) (xwr L 109 (I 101 (18 : Int)) u1) (gG D))) : xR d 188 es_188 0 [xr (some 101), xl u1, xt 0] [] I L (gG D) 0 0 post := xW_R (fun k => false) 13 _ _ _ _ _ _ _ _ _ _ _ _ h
theorem w_188 {d : Nat} {I : XI} {L : XL} {D : GD} {post : XQ}   {v : Int64} (hd : 0 ≤ d) (h : (((0 ≤ (I 101 (18 : Int)) ∧ (I 101 (18 : Int)) < (64 : Int))) ∧ post none (xwr I 101 (18 : Int) ((I 101 (18 : Int)) + (1 : Int))) (xwr L 109 (I 101 (18 : Int)) v) (gG D))) : xR d 188 es_188 0 [xr (some 101), xl v, xt 0] [] I L (gG D) 0 0 post := sg_188_0  (⟨h.1, h.2⟩)
theorem c_188 {I : XI} {L : XL} {D : GD} {v : Int64} (h : (0 ≤ I 101 18 ∧ I 101 18 < 64)) : xM 0 188 [xr (some 101), xl v] I L (gG D) (0, 0) (xD none (xwr I 101 18 (I 101 18 + 1)) (xwr L 109 (I 101 18) v) (gG D)) := by
  intro d hd
  refine w_188 (by omega) ?_
  exact ⟨h, xD_in⟩
theorem sg_189_0 {d : Nat} {I : XI} {L : XL} {D : GD} {post : XQ}   (h : ((0 ≤ ((I 101 (18 : Int)) - (1 : Int)) ∧ ((I 101 (18 : Int)) - (1 : Int)) < (64 : Int)) ∧ post (some (xl (L 109 ((I 101 (18 : Int)) - (1 : Int))))) (xwr I 101 (18 : Int) ((I 101 (18 : Int)) - (1 : Int))) L (gG D))) : xR d 189 es_189 0 [xr (some 101)] [] I L (gG D) 0 0 post := xW_R (fun k => false) 12 _ _ _ _ _ _ _ _ _ _ _ _ h
theorem w_189 {d : Nat} {I : XI} {L : XL} {D : GD} {post : XQ}    (hd : 0 ≤ d) (h : (((0 ≤ ((I 101 (18 : Int)) - (1 : Int)) ∧ ((I 101 (18 : Int)) - (1 : Int)) < (64 : Int))) ∧ post (some (xl (L 109 ((I 101 (18 : Int)) - (1 : Int))))) (xwr I 101 (18 : Int) ((I 101 (18 : Int)) - (1 : Int))) L (gG D))) : xR d 189 es_189 0 [xr (some 101)] [] I L (gG D) 0 0 post := sg_189_0  (⟨h.1, h.2⟩)
theorem c_189 {I : XI} {L : XL} {D : GD}  (h : (0 ≤ I 101 18 - 1 ∧ I 101 18 - 1 < 64)) : xM 0 189 [xr (some 101)] I L (gG D) (0, 0) (xD (some (xl (L 109 (I 101 18 - 1)))) (xwr I 101 18 (I 101 18 - 1)) L (gG D)) := by
  intro d hd
  refine w_189 (by omega) ?_
  exact ⟨h, xD_in⟩
