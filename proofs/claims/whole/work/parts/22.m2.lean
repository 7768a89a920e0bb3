/-! how many bits -/
def pbn (n : Nat) : Nat := (List.range 10).foldl (fun s i => s + n / 2 ^ i % 2) 0
def pbits (x : Int) : Int := (pbn x.toNat : Int)
theorem pb_all : (List.range 1024).all (fun n => decide (n = 0) || (decide (0 ≤ xand (n : Int) ((n : Int) - 1)) && decide (xand (n : Int) ((n : Int) - 1) < (n : Int)) && decide (pbn (xand (n : Int) ((n : Int) - 1)).toNat + 1 = pbn n))) = true := by decide +kernel
theorem pb_step {n : Nat} (h : n < 1024) (h0 : n ≠ 0) : 0 ≤ xand (n : Int) ((n : Int) - 1) ∧ xand (n : Int) ((n : Int) - 1) < (n : Int) ∧ pbn (xand (n : Int) ((n : Int) - 1)).toNat + 1 = pbn n := by
  have := List.all_eq_true.mp pb_all n (List.mem_range.mpr h)
  simp only [Bool.or_eq_true, Bool.and_eq_true, decide_eq_true_eq] at this
  rcases this with h1 | h1
  · exact absurd h1 h0
  · exact ⟨h1.1.1, h1.1.2, h1.2⟩
theorem pb_le : (List.range 1024).all (fun n => decide (pbn n ≤ 10)) = true := by decide +kernel
theorem pbits_rg {x : Int} (h0 : 0 ≤ x) (h1 : x < 1024) : 0 ≤ pbits x ∧ pbits x ≤ 10 := by
  have := of_decide_eq_true (List.all_eq_true.mp pb_le x.toNat (List.mem_range.mpr (by omega)))
  unfold pbits
  omega
set_option maxRecDepth 8000 in
theorem sg_149_0 {d : Nat} {I : XI} {L : XL} {D : GD} {post : XQ}  {u0 : Int} (h : xR d 149 es_149 4 [xi u0, xi (0 : Int), xi u0] [] I L (gG D) 0 0 post) : xR d 149 es_149 0 [xi u0, xt 0, xt 0] [] I L (gG D) 0 0 post := xW_R (fun k => Nat.beq k 4) 4 _ _ _ _ _ _ _ _ _ _ _ _ h
set_option maxRecDepth 8000 in
theorem w_149 {d : Nat} {I : XI} {L : XL} {D : GD} {post : XQ}   {s : Int} (hd : 0 ≤ d) (h : xR d 149 es_149 4 [xi s, xi (0 : Int), xi s] [] I L (gG D) 0 0 post) : xR d 149 es_149 0 [xi s, xt 0, xt 0] [] I L (gG D) 0 0 post := sg_149_0  (h)
set_option maxRecDepth 8000 in
theorem sg_149_4 {d : Nat} {I : XI} {L : XL} {D : GD} {post : XQ}  {u0 : Int} {u1 : Int} {u2 : Int} (h : ((-2147483648 ≤ u2 ∧ u2 ≤ 2147483647) ∧ ((u2 = 0 → post (some (xi u1)) I L (gG D)) ∧ (¬ u2 = 0 → xR d 149 es_149 4 [xi u0, xi (u1 + (1 : Int)), xi (xand u2 (u2 - (1 : Int)))] [] I L (gG D) 0 0 post)))) : xR d 149 es_149 4 [xi u0, xi u1, xi u2] [] I L (gG D) 0 0 post := xW_R (fun k => Nat.beq k 4) 10 _ _ _ _ _ _ _ _ _ _ _ _ h
set_option maxRecDepth 8000 in
theorem b_bits {d : Nat} {I : XI} {L : XL} {D : GD} {post : XQ}   {s : Int} {u : Int} {v : Int} (hd : 0 ≤ d) (h : (((-2147483648 ≤ v ∧ v ≤ 2147483647)) ∧ ((v = 0 → post (some (xi u)) I L (gG D)) ∧ (¬ v = 0 → xR d 149 es_149 4 [xi s, xi (u + (1 : Int)), xi (xand v (v - (1 : Int)))] [] I L (gG D) 0 0 post)))) : xR d 149 es_149 4 [xi s, xi u, xi v] [] I L (gG D) 0 0 post := sg_149_4  (⟨h.1, ⟨fun q29 => (h.2.1 q29), fun q30 => (h.2.2 q30)⟩⟩)
theorem c_149 {I : XI} {L : XL} {D : GD}   {s : Int} (h : (0 ≤ s ∧ s < 1024)) : xM 0 149 [xi s] I L (gG D) (0, 0) (xD (some (xi (pbits s))) I L (gG D)) := by
  intro d hd
  refine w_149 (by omega) ?_
  have key : ∀ (N n : Nat) (u : Int), n ≤ N → n < 1024 → u + (pbn n : Int) = pbits s → xR d 149 es_149 4 [xi s, xi u, xi (n : Int)] [] I L (gG D) 0 0 (xD (some (xi (pbits s))) I L (gG D)) := by
    intro N
    induction N with
    | zero =>
      intro n u hn _ hu
      have : n = 0 := by omega
      subst this
      refine b_bits (by omega) ?_
      refine ⟨by omega, fun _ => ?_, fun h => absurd rfl h⟩
      refine xD_eq ?_ rfl rfl
      rw [← hu]
      have : (pbn 0 : Int) = 0 := rfl
      rw [this, Int.add_zero]
    | succ N ih =>
      intro n u hn h1 hu
      refine b_bits (by omega) ?_
      refine ⟨by omega, fun h => ?_, fun h => ?_⟩
      · have : n = 0 := by omega
        subst this
        refine xD_eq ?_ rfl rfl
        rw [← hu]
        have : (pbn 0 : Int) = 0 := rfl
        rw [this, Int.add_zero]
      · obtain ⟨g1, g2, g3⟩ := pb_step h1 (fun e => h (by rw [e]; rfl))
        have e : ((xand (n : Int) ((n : Int) - 1)).toNat : Int) = xand (n : Int) ((n : Int) - 1) := Int.toNat_of_nonneg g1
        have := ih (xand (n : Int) ((n : Int) - 1)).toNat (u + 1) (by omega) (by omega) (by omega)
        rw [e] at this
        exact this
  have := key s.toNat s.toNat 0 (Nat.le_refl _) (by omega) (by unfold pbits; omega)
  rw [Int.toNat_of_nonneg h.1] at this
  exact this
theorem xior_all : (List.range 32).all (fun j => decide (j ≥ 11) || decide (xshl 1 (j : Int) = 2 ^ j)) = true := by decide +kernel
theorem xior_n (a b : Nat) (ha : a < 2 ^ 31) (hb : b < 2 ^ 31) : xior (a : Int) (b : Int) = ((a ||| b : Nat) : Int) := by
  unfold xior
  rw [Int32.ofInt_eq_ofNat, Int32.ofInt_eq_ofNat]
  have e : Int32.ofNat a ||| Int32.ofNat b = Int32.ofNat (a ||| b) := by
    apply Int32.toBitVec.inj
    show BitVec.ofNat 32 a ||| BitVec.ofNat 32 b = BitVec.ofNat 32 (a ||| b)
    exact (BitVec.ofNat_or (x := a) (y := b) (w := 32)).symm
  rw [e, ← Int32.ofInt_eq_ofNat]
  have := Nat.or_lt_two_pow ha hb
  exact Int32.toInt_ofInt_of_le (by omega) (by omega)
theorem xshl_n {j : Nat} (h : j < 11) : xshl 1 (j : Int) = ((2 ^ j : Nat) : Int) := by
  have := List.all_eq_true.mp xior_all j (List.mem_range.mpr (by omega))
  simp only [Bool.or_eq_true, decide_eq_true_eq] at this
  rcases this with h1 | h1
  · omega
  · rw [h1]; simp
/-- the same set as a Nat -/
def pslN (a : Int → Int) (g : Int) : Nat → Nat
  | 0 => 0
  | n + 1 => pslN a g n ||| (if a (11 + (n : Int)) = g then 2 ^ n else 0)
theorem pslN_lt (a : Int → Int) (g : Int) : ∀ n, pslN a g n < 2 ^ n := by
  intro n
  induction n with
  | zero => exact Nat.zero_lt_one
  | succ n ih =>
    unfold pslN
    refine Nat.or_lt_two_pow (Nat.lt_of_lt_of_le ih (Nat.pow_le_pow_right (by decide) (Nat.le_succ n))) ?_
    split
    · exact Nat.pow_lt_pow_right (by decide) (Nat.lt_succ_self n)
    · exact Nat.two_pow_pos _
theorem psl_N (a : Int → Int) (g : Int) : ∀ n, n ≤ 10 → psl a g n = (pslN a g n : Int) := by
  intro n
  induction n with
  | zero => intro _; rfl
  | succ n ih =>
    intro hn
    have h1 := pslN_lt a g n
    have h2 : 2 ^ n ≤ 2 ^ 10 := Nat.pow_le_pow_right (by decide) (by omega)
    unfold psl pslN
    rw [ih (by omega)]
    split
    · rw [xshl_n (by omega), xior_n _ _ (by omega) (by omega)]
    · exact xior_n _ 0 (by omega) (by decide)
theorem pslices_rg {a : Int → Int} (h : SO a) (g : Int) : 0 ≤ pslices a g ∧ pslices a g < 1024 := by
  have hn := h.n
  unfold pslices
  rw [psl_N a g _ (by omega)]
  have := pslN_lt a g (a 3).toNat
  have h2 : 2 ^ (a 3).toNat ≤ 2 ^ 10 := Nat.pow_le_pow_right (by decide) (by omega)
  omega
/-! the memory's laws -/
theorem xm1 {α : Type} (F : Nat → Int → α) (c : Nat) (j : Int) (v w : α) : xwr (xwr F c j v) c j w = xwr F c j w := by
  funext i
  by_cases h : i = c
  · subst h
    rw [xwr_same, xwr_same, xwr_same]
    funext k
    by_cases hk : k = j
    · subst hk; rw [xup_same, xup_same]
    · rw [xup_ne _ _ hk, xup_ne _ _ hk, xup_ne _ _ hk]
  · rw [xwr_ne _ _ _ h, xwr_ne _ _ _ h, xwr_ne _ _ _ h]
theorem xm2 {α : Type} (F : Nat → Int → α) (c : Nat) (j : Int) (v : α) : xwr F c j v c j = v := by rw [xwr_same, xup_same]
theorem xm4 {α : Type} (F : Nat → Int → α) (c : Nat) (f : Int → α) (j : Int) (v : α) : xwr (xsc F c f) c j v = xsc F c (xup f j v) := by
  funext i
  by_cases h : i = c
  · subst h; rw [xwr_same, xsc_same, xsc_same]
  · rw [xwr_ne _ _ _ h, xsc_ne _ _ h, xsc_ne _ _ h]
theorem xm5 {α : Type} (F : Nat → α) (c : Nat) (f g : α) : xsc (xsc F c f) c g = xsc F c g := by
  funext i
  by_cases h : i = c
  · subst h; rw [xsc_same, xsc_same]
  · rw [xsc_ne _ _ h, xsc_ne _ _ h, xsc_ne _ _ h]
theorem xm6 {α : Type} (F : Nat → α) (c : Nat) : xsc F c (F c) = F := by
  funext i
  by_cases h : i = c
  · subst h; rw [xsc_same]
  · rw [xsc_ne _ _ h]
/-! compares of longs -/
theorem xl_lt (x y : Int64) : xlcm x y < 0 ↔ x < y := by
  unfold xlcm
  simp only [Int64.lt_iff_toInt_lt, ← Int64.toInt_inj]
  split
  · omega
  · split <;> omega
theorem xl_eq (x y : Int64) : xlcm x y = 0 ↔ x = y := by
  unfold xlcm
  simp only [Int64.lt_iff_toInt_lt, ← Int64.toInt_inj]
  split
  · omega
  · split <;> omega
theorem xl_gt (x y : Int64) : 0 < xlcm x y ↔ y < x := by
  unfold xlcm
  simp only [Int64.lt_iff_toInt_lt, ← Int64.toInt_inj]
  split
  · omega
  · split <;> omega
theorem xl_le (x y : Int64) : xlcm x y ≤ 0 ↔ x ≤ y := by
  unfold xlcm
  simp only [Int64.lt_iff_toInt_lt, Int64.le_iff_toInt_le, ← Int64.toInt_inj]
  split
  · omega
  · split <;> omega
theorem xl_ge (x y : Int64) : 0 ≤ xlcm x y ↔ y ≤ x := by
  unfold xlcm
  simp only [Int64.lt_iff_toInt_lt, Int64.le_iff_toInt_le, ← Int64.toInt_inj]
  split
  · omega
  · split <;> omega
/-- two values joined, by the reference's numbers -/
def pone (s : Int) (x y : Int64) : Int64 := if s = 2 then x + y else if s = 3 then x - y else if s = 4 then x * y else if s = 5 then (if y = 0 then 0 else x / y) else if s = 6 then (if x < y then 1 else 0) else if s = 7 then (if x ≤ y then 1 else 0) else if s = 8 then (if x = y then 1 else 0) else if s = 9 then (if y ≤ x then 1 else 0) else if s = 10 then (if y < x then 1 else 0) else if s = 12 then x &&& y else if s = 14 then (if y = 0 then 0 else x - x / y * y) else x ||| y
set_option maxRecDepth 8000 in
theorem sg_190_0 {d : Nat} {I : XI} {L : XL} {D : GD} {post : XQ}  {u0 : Int} {u1 : Int64} {u3 : Int64} (h : ((-2147483648 ≤ u0 ∧ u0 ≤ 2147483647) ∧ ((u0 = (2 : Int) → post (some (xl (u1 + u3))) I L (gG D)) ∧ (¬ u0 = (2 : Int) → ((u0 = (3 : Int) → post (some (xl (u1 - u3))) I L (gG D)) ∧ (¬ u0 = (3 : Int) → ((u0 = (4 : Int) → post (some (xl (u1 * u3))) I L (gG D)) ∧ (¬ u0 = (4 : Int) → ((u0 = (5 : Int) → ((-2147483648 ≤ (xlcm u3 (0 : Int64)) ∧ (xlcm u3 (0 : Int64)) ≤ 2147483647) ∧ ((¬ (xlcm u3 (0 : Int64)) = 0 → ((¬ u3 = 0) ∧ post (some (xl (u1 / u3))) I L (gG D))) ∧ ((xlcm u3 (0 : Int64)) = 0 → post (some (xl (0 : Int64))) I L (gG D))))) ∧ (¬ u0 = (5 : Int) → ((u0 = (6 : Int) → ((-2147483648 ≤ (xlcm u1 u3) ∧ (xlcm u1 u3) ≤ 2147483647) ∧ ((0 ≤ (xlcm u1 u3) → post (some (xl (0 : Int64))) I L (gG D)) ∧ ((xlcm u1 u3) < 0 → post (some (xl (1 : Int64))) I L (gG D))))) ∧ (¬ u0 = (6 : Int) → ((u0 = (7 : Int) → ((-2147483648 ≤ (xlcm u1 u3) ∧ (xlcm u1 u3) ≤ 2147483647) ∧ ((0 < (xlcm u1 u3) → post (some (xl (0 : Int64))) I L (gG D)) ∧ ((xlcm u1 u3) ≤ 0 → post (some (xl (1 : Int64))) I L (gG D))))) ∧ (¬ u0 = (7 : Int) → ((u0 = (8 : Int) → ((-2147483648 ≤ (xlcm u1 u3) ∧ (xlcm u1 u3) ≤ 2147483647) ∧ ((¬ (xlcm u1 u3) = 0 → post (some (xl (0 : Int64))) I L (gG D)) ∧ ((xlcm u1 u3) = 0 → post (some (xl (1 : Int64))) I L (gG D))))) ∧ (¬ u0 = (8 : Int) → ((u0 = (9 : Int) → ((-2147483648 ≤ (xlcm u1 u3) ∧ (xlcm u1 u3) ≤ 2147483647) ∧ (((xlcm u1 u3) < 0 → post (some (xl (0 : Int64))) I L (gG D)) ∧ (0 ≤ (xlcm u1 u3) → post (some (xl (1 : Int64))) I L (gG D))))) ∧ (¬ u0 = (9 : Int) → ((u0 = (10 : Int) → ((-2147483648 ≤ (xlcm u1 u3) ∧ (xlcm u1 u3) ≤ 2147483647) ∧ (((xlcm u1 u3) ≤ 0 → post (some (xl (0 : Int64))) I L (gG D)) ∧ (0 < (xlcm u1 u3) → post (some (xl (1 : Int64))) I L (gG D))))) ∧ (¬ u0 = (10 : Int) → ((u0 = (11 : Int) → post (some (xl (u1 ||| u3))) I L (gG D)) ∧ (¬ u0 = (11 : Int) → ((u0 = (12 : Int) → post (some (xl (u1 &&& u3))) I L (gG D)) ∧ (¬ u0 = (12 : Int) → ((u0 = (13 : Int) → post (some (xl (u1 ||| u3))) I L (gG D)) ∧ (¬ u0 = (13 : Int) → ((u0 = (14 : Int) → ((-2147483648 ≤ (xlcm u3 (0 : Int64)) ∧ (xlcm u3 (0 : Int64)) ≤ 2147483647) ∧ ((¬ (xlcm u3 (0 : Int64)) = 0 → ((¬ u3 = 0) ∧ post (some (xl (u1 - u1 / u3 * u3))) I L (gG D))) ∧ ((xlcm u3 (0 : Int64)) = 0 → post (some (xl (0 : Int64))) I L (gG D))))) ∧ (¬ u0 = (14 : Int) → post (some (xl (u1 ||| u3))) I L (gG D))))))))))))))))))))))))))))) : xR d 190 es_190 0 [xi u0, xl u1, xt 0, xl u3, xt 0] [] I L (gG D) 0 0 post := xW_R (fun k => false) 10 _ _ _ _ _ _ _ _ _ _ _ _ h
set_option maxRecDepth 8000 in
theorem w_190 {d : Nat} {I : XI} {L : XL} {D : GD} {post : XQ}   {s : Int} {x : Int64} {y : Int64} (hd : 0 ≤ d) (h : (((-2147483648 ≤ s ∧ s ≤ 2147483647)) ∧ (((s = (2 : Int) → post (some (xl (x + y))) I L (gG D)) ∧ (¬ s = (2 : Int) → (((s = (3 : Int) → post (some (xl (x - y))) I L (gG D)) ∧ (¬ s = (3 : Int) → (((s = (4 : Int) → post (some (xl (x * y))) I L (gG D)) ∧ (¬ s = (4 : Int) → (((s = (5 : Int) → (((¬ (xlcm y (0 : Int64)) = 0 → ((¬ y = 0) ∧ post (some (xl (x / y))) I L (gG D))) ∧ ((xlcm y (0 : Int64)) = 0 → post (some (xl (0 : Int64))) I L (gG D))))) ∧ (¬ s = (5 : Int) → (((s = (6 : Int) → (((0 ≤ (xlcm x y) → post (some (xl (0 : Int64))) I L (gG D)) ∧ ((xlcm x y) < 0 → post (some (xl (1 : Int64))) I L (gG D))))) ∧ (¬ s = (6 : Int) → (((s = (7 : Int) → (((0 < (xlcm x y) → post (some (xl (0 : Int64))) I L (gG D)) ∧ ((xlcm x y) ≤ 0 → post (some (xl (1 : Int64))) I L (gG D))))) ∧ (¬ s = (7 : Int) → (((s = (8 : Int) → (((¬ (xlcm x y) = 0 → post (some (xl (0 : Int64))) I L (gG D)) ∧ ((xlcm x y) = 0 → post (some (xl (1 : Int64))) I L (gG D))))) ∧ (¬ s = (8 : Int) → (((s = (9 : Int) → ((((xlcm x y) < 0 → post (some (xl (0 : Int64))) I L (gG D)) ∧ (0 ≤ (xlcm x y) → post (some (xl (1 : Int64))) I L (gG D))))) ∧ (¬ s = (9 : Int) → (((s = (10 : Int) → ((((xlcm x y) ≤ 0 → post (some (xl (0 : Int64))) I L (gG D)) ∧ (0 < (xlcm x y) → post (some (xl (1 : Int64))) I L (gG D))))) ∧ (¬ s = (10 : Int) → (((s = (11 : Int) → post (some (xl (x ||| y))) I L (gG D)) ∧ (¬ s = (11 : Int) → (((s = (12 : Int) → post (some (xl (x &&& y))) I L (gG D)) ∧ (¬ s = (12 : Int) → (((s = (13 : Int) → post (some (xl (x ||| y))) I L (gG D)) ∧ (¬ s = (13 : Int) → (((s = (14 : Int) → (((¬ (xlcm y (0 : Int64)) = 0 → ((¬ y = 0) ∧ post (some (xl (x - x / y * y))) I L (gG D))) ∧ ((xlcm y (0 : Int64)) = 0 → post (some (xl (0 : Int64))) I L (gG D))))) ∧ (¬ s = (14 : Int) → post (some (xl (x ||| y))) I L (gG D)))))))))))))))))))))))))))))))))))))))))) : xR d 190 es_190 0 [xi s, xl x, xt 0, xl y, xt 0] [] I L (gG D) 0 0 post := sg_190_0  (⟨h.1, ⟨fun q69 => (h.2.1 q69), fun q70 => ⟨fun q67 => ((h.2.2 q70).1 q67), fun q68 => ⟨fun q65 => (((h.2.2 q70).2 q68).1 q65), fun q66 => ⟨fun q63 => ⟨(xlcm_rg _ _), ⟨fun q31 => ⟨(((((h.2.2 q70).2 q68).2 q66).1 q63).1 q31).1, (((((h.2.2 q70).2 q68).2 q66).1 q63).1 q31).2⟩, fun q32 => (((((h.2.2 q70).2 q68).2 q66).1 q63).2 q32)⟩⟩, fun q64 => ⟨fun q61 => ⟨(xlcm_rg _ _), ⟨fun q33 => ((((((h.2.2 q70).2 q68).2 q66).2 q64).1 q61).1 q33), fun q34 => ((((((h.2.2 q70).2 q68).2 q66).2 q64).1 q61).2 q34)⟩⟩, fun q62 => ⟨fun q59 => ⟨(xlcm_rg _ _), ⟨fun q35 => (((((((h.2.2 q70).2 q68).2 q66).2 q64).2 q62).1 q59).1 q35), fun q36 => (((((((h.2.2 q70).2 q68).2 q66).2 q64).2 q62).1 q59).2 q36)⟩⟩, fun q60 => ⟨fun q57 => ⟨(xlcm_rg _ _), ⟨fun q37 => ((((((((h.2.2 q70).2 q68).2 q66).2 q64).2 q62).2 q60).1 q57).1 q37), fun q38 => ((((((((h.2.2 q70).2 q68).2 q66).2 q64).2 q62).2 q60).1 q57).2 q38)⟩⟩, fun q58 => ⟨fun q55 => ⟨(xlcm_rg _ _), ⟨fun q39 => (((((((((h.2.2 q70).2 q68).2 q66).2 q64).2 q62).2 q60).2 q58).1 q55).1 q39), fun q40 => (((((((((h.2.2 q70).2 q68).2 q66).2 q64).2 q62).2 q60).2 q58).1 q55).2 q40)⟩⟩, fun q56 => ⟨fun q53 => ⟨(xlcm_rg _ _), ⟨fun q41 => ((((((((((h.2.2 q70).2 q68).2 q66).2 q64).2 q62).2 q60).2 q58).2 q56).1 q53).1 q41), fun q42 => ((((((((((h.2.2 q70).2 q68).2 q66).2 q64).2 q62).2 q60).2 q58).2 q56).1 q53).2 q42)⟩⟩, fun q54 => ⟨fun q51 => ((((((((((h.2.2 q70).2 q68).2 q66).2 q64).2 q62).2 q60).2 q58).2 q56).2 q54).1 q51), fun q52 => ⟨fun q49 => (((((((((((h.2.2 q70).2 q68).2 q66).2 q64).2 q62).2 q60).2 q58).2 q56).2 q54).2 q52).1 q49), fun q50 => ⟨fun q47 => ((((((((((((h.2.2 q70).2 q68).2 q66).2 q64).2 q62).2 q60).2 q58).2 q56).2 q54).2 q52).2 q50).1 q47), fun q48 => ⟨fun q45 => ⟨(xlcm_rg _ _), ⟨fun q43 => ⟨((((((((((((((h.2.2 q70).2 q68).2 q66).2 q64).2 q62).2 q60).2 q58).2 q56).2 q54).2 q52).2 q50).2 q48).1 q45).1 q43).1, ((((((((((((((h.2.2 q70).2 q68).2 q66).2 q64).2 q62).2 q60).2 q58).2 q56).2 q54).2 q52).2 q50).2 q48).1 q45).1 q43).2⟩, fun q44 => ((((((((((((((h.2.2 q70).2 q68).2 q66).2 q64).2 q62).2 q60).2 q58).2 q56).2 q54).2 q52).2 q50).2 q48).1 q45).2 q44)⟩⟩, fun q46 => (((((((((((((h.2.2 q70).2 q68).2 q66).2 q64).2 q62).2 q60).2 q58).2 q56).2 q54).2 q52).2 q50).2 q48).2 q46)⟩⟩⟩⟩⟩⟩⟩⟩⟩⟩⟩⟩⟩⟩)
theorem c_190 {I : XI} {L : XL} {D : GD}   {s : Int} {x : Int64} {y : Int64} (h : (0 ≤ s ∧ s ≤ 15)) : xM 0 190 [xi s, xl x, xl y] I L (gG D) (0, 0) (xD (some (xl (pone s x y))) I L (gG D)) := by
  intro d hd
  refine w_190 (by omega) ?_
  repeat' first | (with_reducible intro _) | (with_reducible refine And.intro ?_ ?_)
  all_goals first | omega | skip
  all_goals first
    | (rename_i hq; exact fun q => hq ((xl_eq _ _).mpr q))
    | (simp_all only [xl_lt, xl_eq, xl_gt, xl_le, xl_ge]; done)
    | (refine xD_eq ?_ rfl rfl; unfold pone; simp_all [xl_lt, xl_eq, xl_gt, xl_le, xl_ge]; done)
    | (refine xD_eq ?_ rfl rfl; unfold pone; simp only [xl_lt, xl_eq, xl_gt, xl_le, xl_ge] at *; simp_all; done)
    | skip
/-! memory: one cell, two, three changed -/
theorem xmem0 {α : Type} {F : Nat → Int → α} {c : Nat} {j : Int} {v : α} : xwr F c j v = xsc F c (xup (F c) j v) := rfl
theorem xmem1 {α : Type} {F F' : Nat → α} {c1 : Nat} {f1 : α} (h0 : ∀ i, i ≠ c1 → F' i = F i) (h1 : F' c1 = f1) : F' = xsc F c1 f1 := by
  funext i
  by_cases a : i = c1
  · subst a; rw [xsc_same, h1]
  · rw [xsc_ne _ _ a, h0 i a]
theorem xmem2 {α : Type} {F F' : Nat → α} {c1 c2 : Nat} {f1 f2 : α} (hc : c1 ≠ c2) (h0 : ∀ i, i ≠ c1 → i ≠ c2 → F' i = F i) (h1 : F' c1 = f1) (h2 : F' c2 = f2) : F' = xsc (xsc F c1 f1) c2 f2 := by
  refine xmem1 (fun i a => ?_) h2
  by_cases b : i = c1
  · subst b; rw [xsc_same, h1]
  · rw [xsc_ne _ _ b, h0 i b a]
theorem xmem3 {α : Type} {F F' : Nat → α} {c1 c2 c3 : Nat} {f1 f2 f3 : α} (hc : c1 ≠ c2 ∧ c1 ≠ c3 ∧ c2 ≠ c3) (h0 : ∀ i, i ≠ c1 → i ≠ c2 → i ≠ c3 → F' i = F i) (h1 : F' c1 = f1) (h2 : F' c2 = f2) (h3 : F' c3 = f3) : F' = xsc (xsc (xsc F c1 f1) c2 f2) c3 f3 := by
  refine xmem1 (fun i a => ?_) h3
  by_cases b2 : i = c2
  · subst b2; rw [xsc_same, h2]
  · rw [xsc_ne _ _ b2]
    by_cases b : i = c1
    · subst b; rw [xsc_same, h1]
    · rw [xsc_ne _ _ b, h0 i b b2 a]
theorem xR_mem {d m : Nat} {es : List XE} {k : Nat} {ls st : List XV} {I I2 : XI} {L L2 : XL} {G : XG} {c s : Nat} {post : XQ} (h1 : I = I2) (h2 : L = L2) (h : xR d m es k ls st I2 L2 G c s post) : xR d m es k ls st I L G c s post := by
  subst h1 h2
  exact h
theorem xpost {post : XQ} {r : Option XV} {I I2 : XI} {L L2 : XL} {G : XG} (h : post r I2 L2 G) (h1 : I = I2) (h2 : L = L2) : post r I L G := by
  subst h1 h2
  exact h
theorem xR_memc {d m : Nat} {es : List XE} {k : Nat} {ls st : List XV} {I I2 : XI} {L L2 : XL} {G : XG} {c s : Nat} {post : XQ} (h : xR d m es k ls st I2 L2 G c s post) (h1 : I = I2) (h2 : L = L2) : xR d m es k ls st I L G c s post := xR_mem h1 h2 h
theorem xpt {α : Type} {F' F : Nat → α} {c : Nat} {f : α} {i : Nat} (h1 : F' c = f) (h2 : i ≠ c → F' i = F i) : F' i = xsc F c f i := by
  by_cases h : i = c
  · subst h; rw [xsc_same]; exact h1
  · rw [xsc_ne _ _ h]; exact h2 h
theorem xs_self {α : Type} (F : Nat → Int → α) (c : Nat) (j : Int) : xsc F c (xup (F c) j (F c j)) = F := by
  rw [show xup (F c) j (F c j) = F c from by funext i; unfold xup; split; (rename_i h; rw [h]); rfl, xm6]
theorem xup_self2 {α : Type} (f : Int → α) (a b : Int) : xup (xup f a (f a)) b (f b) = f := by
  funext i
  simp only [xup]
  (repeat' split) <;> first | rfl | (subst_vars; rfl)
theorem xup_self3 {α : Type} (f : Int → α) (a b c : Int) : xup (xup (xup f a (f a)) b (f b)) c (f c) = f := by
  funext i
  simp only [xup]
  (repeat' split) <;> first | rfl | (subst_vars; rfl)
theorem xup_up {α : Type} (f : Int → α) (j : Int) (v w : α) : xup (xup f j v) j w = xup f j w := by
  funext i
  unfold xup
  split <;> rfl
theorem xup_self {α : Type} (f : Int → α) (j : Int) : xup f j (f j) = f := by
  funext i
  unfold xup
  split
  · rename_i h; rw [h]
  · rfl
set_option maxRecDepth 8000 in
theorem sg_188_0 {d : Nat} {I : XI} {L : XL} {D : GD} {post : XQ}  {u1 : Int64} (h : ((0 ≤ (I 101 (18 : Int)) ∧ (I 101 (18 : Int)) < (64 : Int)) ∧ post none (xwr I 101 (18 : Int) ((I 101 (18 : Int)) + (1 : Int))) (xwr L 109 (I 101 (18 : Int)) u1) (gG D))) : xR d 188 es_188 0 [xr (some 101), xl u1, xt 0] [] I L (gG D) 0 0 post := xW_R (fun k => false) 13 _ _ _ _ _ _ _ _ _ _ _ _ h
set_option maxRecDepth 8000 in
theorem w_188 {d : Nat} {I : XI} {L : XL} {D : GD} {post : XQ}   {v : Int64} (hd : 0 ≤ d) (h : (((0 ≤ (I 101 (18 : Int)) ∧ (I 101 (18 : Int)) < (64 : Int))) ∧ post none (xsc I 101 (xup (I 101) (18 : Int) ((I 101 (18 : Int)) + (1 : Int)))) (xsc L 109 (xup (L 109) (I 101 (18 : Int)) v)) (gG D))) : xR d 188 es_188 0 [xr (some 101), xl v, xt 0] [] I L (gG D) 0 0 post := sg_188_0  (⟨h.1, h.2⟩)
theorem c_188 {I : XI} {L : XL} {D : GD}   {v : Int64} (h : (0 ≤ I 101 (18 : Int) ∧ I 101 (18 : Int) < 64)) : xM 0 188 [xr (some 101), xl v] I L (gG D) (0, 0) (xD none (xsc I 101 (xup (I 101) (18 : Int) (I 101 (18 : Int) + 1))) (xsc L 109 (xup (L 109) (I 101 (18 : Int)) v)) (gG D)) := by
  intro d hd
  refine w_188 (by omega) ?_
  exact ⟨h, xD_in⟩
set_option maxRecDepth 8000 in
theorem sg_189_0 {d : Nat} {I : XI} {L : XL} {D : GD} {post : XQ}   (h : ((0 ≤ ((I 101 (18 : Int)) - (1 : Int)) ∧ ((I 101 (18 : Int)) - (1 : Int)) < (64 : Int)) ∧ post (some (xl (L 109 ((I 101 (18 : Int)) - (1 : Int))))) (xwr I 101 (18 : Int) ((I 101 (18 : Int)) - (1 : Int))) L (gG D))) : xR d 189 es_189 0 [xr (some 101)] [] I L (gG D) 0 0 post := xW_R (fun k => false) 12 _ _ _ _ _ _ _ _ _ _ _ _ h
set_option maxRecDepth 8000 in
theorem w_189 {d : Nat} {I : XI} {L : XL} {D : GD} {post : XQ}    (hd : 0 ≤ d) (h : (((0 ≤ ((I 101 (18 : Int)) - (1 : Int)) ∧ ((I 101 (18 : Int)) - (1 : Int)) < (64 : Int))) ∧ post (some (xl (L 109 ((I 101 (18 : Int)) - (1 : Int))))) (xsc I 101 (xup (I 101) (18 : Int) ((I 101 (18 : Int)) - (1 : Int)))) L (gG D))) : xR d 189 es_189 0 [xr (some 101)] [] I L (gG D) 0 0 post := sg_189_0  (⟨h.1, h.2⟩)
theorem c_189 {I : XI} {L : XL} {D : GD}    (h : (0 ≤ I 101 (18 : Int) - 1 ∧ I 101 (18 : Int) - 1 < 64)) : xM 0 189 [xr (some 101)] I L (gG D) (0, 0) (xD (some (xl (L 109 (I 101 (18 : Int) - 1)))) (xsc I 101 (xup (I 101) (18 : Int) (I 101 (18 : Int) - 1))) L (gG D)) := by
  intro d hd
  refine w_189 (by omega) ?_
  exact ⟨h, xD_in⟩
