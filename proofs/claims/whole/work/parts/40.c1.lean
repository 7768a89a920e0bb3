set_option maxRecDepth 8000 in
theorem sg_260_0 {d : Nat} {I : XI} {L : XL} {D : GD} {post : XQ}  {u0 : Int} (h : post (some (xi (xand (((xand (((xand (u0 - (xand (xush u0 (1 : Int)) (1431655765 : Int))) (858993459 : Int)) + (xand (xush (u0 - (xand (xush u0 (1 : Int)) (1431655765 : Int))) (2 : Int)) (858993459 : Int))) + (xush ((xand (u0 - (xand (xush u0 (1 : Int)) (1431655765 : Int))) (858993459 : Int)) + (xand (xush (u0 - (xand (xush u0 (1 : Int)) (1431655765 : Int))) (2 : Int)) (858993459 : Int))) (4 : Int))) (252645135 : Int)) + (xush (xand (((xand (u0 - (xand (xush u0 (1 : Int)) (1431655765 : Int))) (858993459 : Int)) + (xand (xush (u0 - (xand (xush u0 (1 : Int)) (1431655765 : Int))) (2 : Int)) (858993459 : Int))) + (xush ((xand (u0 - (xand (xush u0 (1 : Int)) (1431655765 : Int))) (858993459 : Int)) + (xand (xush (u0 - (xand (xush u0 (1 : Int)) (1431655765 : Int))) (2 : Int)) (858993459 : Int))) (4 : Int))) (252645135 : Int)) (8 : Int))) + (xush ((xand (((xand (u0 - (xand (xush u0 (1 : Int)) (1431655765 : Int))) (858993459 : Int)) + (xand (xush (u0 - (xand (xush u0 (1 : Int)) (1431655765 : Int))) (2 : Int)) (858993459 : Int))) + (xush ((xand (u0 - (xand (xush u0 (1 : Int)) (1431655765 : Int))) (858993459 : Int)) + (xand (xush (u0 - (xand (xush u0 (1 : Int)) (1431655765 : Int))) (2 : Int)) (858993459 : Int))) (4 : Int))) (252645135 : Int)) + (xush (xand (((xand (u0 - (xand (xush u0 (1 : Int)) (1431655765 : Int))) (858993459 : Int)) + (xand (xush (u0 - (xand (xush u0 (1 : Int)) (1431655765 : Int))) (2 : Int)) (858993459 : Int))) + (xush ((xand (u0 - (xand (xush u0 (1 : Int)) (1431655765 : Int))) (858993459 : Int)) + (xand (xush (u0 - (xand (xush u0 (1 : Int)) (1431655765 : Int))) (2 : Int)) (858993459 : Int))) (4 : Int))) (252645135 : Int)) (8 : Int))) (16 : Int))) (63 : Int)))) I L (gG D)) : xR d 260 es_260 0 [xi u0] [] I L (gG D) 0 0 post := xW_R (fun k => false) 42 _ _ _ _ _ _ _ _ _ _ _ _ h
set_option maxRecDepth 8000 in
theorem w_260 {d : Nat} {I : XI} {L : XL} {D : GD} {post : XQ}   {x : Int} (hd : 0 ≤ d) (h : post (some (xi (xand (((xand (((xand (x - (xand (xush x (1 : Int)) (1431655765 : Int))) (858993459 : Int)) + (xand (xush (x - (xand (xush x (1 : Int)) (1431655765 : Int))) (2 : Int)) (858993459 : Int))) + (xush ((xand (x - (xand (xush x (1 : Int)) (1431655765 : Int))) (858993459 : Int)) + (xand (xush (x - (xand (xush x (1 : Int)) (1431655765 : Int))) (2 : Int)) (858993459 : Int))) (4 : Int))) (252645135 : Int)) + (xush (xand (((xand (x - (xand (xush x (1 : Int)) (1431655765 : Int))) (858993459 : Int)) + (xand (xush (x - (xand (xush x (1 : Int)) (1431655765 : Int))) (2 : Int)) (858993459 : Int))) + (xush ((xand (x - (xand (xush x (1 : Int)) (1431655765 : Int))) (858993459 : Int)) + (xand (xush (x - (xand (xush x (1 : Int)) (1431655765 : Int))) (2 : Int)) (858993459 : Int))) (4 : Int))) (252645135 : Int)) (8 : Int))) + (xush ((xand (((xand (x - (xand (xush x (1 : Int)) (1431655765 : Int))) (858993459 : Int)) + (xand (xush (x - (xand (xush x (1 : Int)) (1431655765 : Int))) (2 : Int)) (858993459 : Int))) + (xush ((xand (x - (xand (xush x (1 : Int)) (1431655765 : Int))) (858993459 : Int)) + (xand (xush (x - (xand (xush x (1 : Int)) (1431655765 : Int))) (2 : Int)) (858993459 : Int))) (4 : Int))) (252645135 : Int)) + (xush (xand (((xand (x - (xand (xush x (1 : Int)) (1431655765 : Int))) (858993459 : Int)) + (xand (xush (x - (xand (xush x (1 : Int)) (1431655765 : Int))) (2 : Int)) (858993459 : Int))) + (xush ((xand (x - (xand (xush x (1 : Int)) (1431655765 : Int))) (858993459 : Int)) + (xand (xush (x - (xand (xush x (1 : Int)) (1431655765 : Int))) (2 : Int)) (858993459 : Int))) (4 : Int))) (252645135 : Int)) (8 : Int))) (16 : Int))) (63 : Int)))) I L (gG D)) : xR d 260 es_260 0 [xi x] [] I L (gG D) 0 0 post := sg_260_0  (h)
/-! the class: how many bits -/
def bcx (x : Int) : Int := (xand (((xand (((xand (x - (xand (xush x (1 : Int)) (1431655765 : Int))) (858993459 : Int)) + (xand (xush (x - (xand (xush x (1 : Int)) (1431655765 : Int))) (2 : Int)) (858993459 : Int))) + (xush ((xand (x - (xand (xush x (1 : Int)) (1431655765 : Int))) (858993459 : Int)) + (xand (xush (x - (xand (xush x (1 : Int)) (1431655765 : Int))) (2 : Int)) (858993459 : Int))) (4 : Int))) (252645135 : Int)) + (xush (xand (((xand (x - (xand (xush x (1 : Int)) (1431655765 : Int))) (858993459 : Int)) + (xand (xush (x - (xand (xush x (1 : Int)) (1431655765 : Int))) (2 : Int)) (858993459 : Int))) + (xush ((xand (x - (xand (xush x (1 : Int)) (1431655765 : Int))) (858993459 : Int)) + (xand (xush (x - (xand (xush x (1 : Int)) (1431655765 : Int))) (2 : Int)) (858993459 : Int))) (4 : Int))) (252645135 : Int)) (8 : Int))) + (xush ((xand (((xand (x - (xand (xush x (1 : Int)) (1431655765 : Int))) (858993459 : Int)) + (xand (xush (x - (xand (xush x (1 : Int)) (1431655765 : Int))) (2 : Int)) (858993459 : Int))) + (xush ((xand (x - (xand (xush x (1 : Int)) (1431655765 : Int))) (858993459 : Int)) + (xand (xush (x - (xand (xush x (1 : Int)) (1431655765 : Int))) (2 : Int)) (858993459 : Int))) (4 : Int))) (252645135 : Int)) + (xush (xand (((xand (x - (xand (xush x (1 : Int)) (1431655765 : Int))) (858993459 : Int)) + (xand (xush (x - (xand (xush x (1 : Int)) (1431655765 : Int))) (2 : Int)) (858993459 : Int))) + (xush ((xand (x - (xand (xush x (1 : Int)) (1431655765 : Int))) (858993459 : Int)) + (xand (xush (x - (xand (xush x (1 : Int)) (1431655765 : Int))) (2 : Int)) (858993459 : Int))) (4 : Int))) (252645135 : Int)) (8 : Int))) (16 : Int))) (63 : Int))
theorem bcx_all : (List.range 1024).all (fun n => decide (bcx (n : Int) = (pbn n : Int))) = true := by decide +kernel
theorem bcx_eq {x : Int} (h0 : 0 ≤ x) (h1 : x < 1024) : bcx x = pbits x := by
  have := of_decide_eq_true (List.all_eq_true.mp bcx_all x.toNat (List.mem_range.mpr (by omega)))
  rw [Int.toNat_of_nonneg h0] at this
  exact this
theorem c_260 {I : XI} {L : XL} {D : GD}   {x : Int} (h : (0 ≤ x ∧ x < 1024)) : xM 0 260 [xi x] I L (gG D) (0, 0) (xD (some (xi (pbits x))) I L (gG D)) := by
  intro d hd
  refine w_260 (by omega) ?_
  rw [← bcx_eq h.1 h.2]
  exact xD_in
/-! bits of sets -/
theorem xush_nn (x n : Nat) (hx : x < 2147483648) (hn : n < 31) : xshr (x : Int) (n : Int) = ((x >>> n : Nat) : Int) := by
  unfold xshr
  have e1 : Int32.ofInt (n : Int) &&& 31 = Int32.ofInt (n : Int) := by
    apply Int32.toBitVec.inj
    show BitVec.ofInt 32 (n : Int) &&& 31#32 = BitVec.ofInt 32 (n : Int)
    have : ∀ m : Nat, m < 31 → BitVec.ofInt 32 (m : Int) &&& 31#32 = BitVec.ofInt 32 (m : Int) := by decide
    exact this n hn
  rw [e1]
  have e2 : Int32.ofInt (x : Int) >>> Int32.ofInt (n : Int) = Int32.ofInt ((x >>> n : Nat) : Int) := by
    apply Int32.toBitVec.inj
    rw [Int32.toBitVec_shiftRight]
    have h3 : ((Int32.ofInt (n : Int)).toBitVec.smod 32) = BitVec.ofNat 32 n := by
      have : ∀ m : Nat, m < 31 → (BitVec.ofInt 32 (m : Int)).smod 32 = BitVec.ofNat 32 m := by decide
      exact this n hn
    rw [h3]
    show (BitVec.ofInt 32 (x : Int)).sshiftRight' (BitVec.ofNat 32 n) = BitVec.ofInt 32 ((x >>> n : Nat) : Int)
    rw [BitVec.sshiftRight_eq', BitVec.toNat_ofNat, Nat.mod_eq_of_lt (by omega)]
    apply BitVec.eq_of_toInt_eq
    have hx2 : x >>> n ≤ x := by rw [Nat.shiftRight_eq_div_pow]; exact Nat.div_le_self _ _
    rw [BitVec.toInt_sshiftRight, BitVec.toInt_ofInt_eq_self (by decide) (by omega) (by omega), BitVec.toInt_ofInt_eq_self (by decide) (Int.le_trans (by decide) (Int.natCast_nonneg _)) (Int.lt_of_le_of_lt (Int.ofNat_le.mpr hx2) (by omega))]
    rfl
  rw [e2]
  have hx2 : x >>> n ≤ x := by rw [Nat.shiftRight_eq_div_pow]; exact Nat.div_le_self _ _
  exact Int32.toInt_ofInt_of_le (Int.le_trans (by decide) (Int.natCast_nonneg _)) (Int.lt_of_le_of_lt (Int.ofNat_le.mpr hx2) (by omega))
theorem xand_nn (x y : Nat) (hx : x < 2147483648) (hy : y < 2147483648) : xand (x : Int) (y : Int) = ((x &&& y : Nat) : Int) := by
  unfold xand
  rw [Int32.ofInt_eq_ofNat, Int32.ofInt_eq_ofNat]
  have e : Int32.ofNat x &&& Int32.ofNat y = Int32.ofNat (x &&& y) := by
    apply Int32.toBitVec.inj
    show BitVec.ofNat 32 x &&& BitVec.ofNat 32 y = BitVec.ofNat 32 (x &&& y)
    exact (BitVec.ofNat_and (x := x) (y := y) (w := 32)).symm
  rw [e, ← Int32.ofInt_eq_ofNat]
  have := Nat.and_le_left (n := x) (m := y)
  exact Int32.toInt_ofInt_of_le (by omega) (by omega)
theorem xbit (x n : Nat) (hx : x < 2147483648) (hn : n < 31) : xand (xshr (x : Int) (n : Int)) 1 = if x.testBit n then 1 else 0 := by
  rw [xush_nn x n hx hn]
  have hx2 : x >>> n ≤ x := by rw [Nat.shiftRight_eq_div_pow]; exact Nat.div_le_self _ _
  have := xand_nn (x >>> n) 1 (by omega) (by decide)
  rw [show ((1 : Nat) : Int) = 1 from rfl] at this
  rw [this, Nat.and_one_is_mod, Nat.testBit_eq_decide_div_mod_eq, Nat.shiftRight_eq_div_pow]
  by_cases h : x / 2 ^ n % 2 = 1
  · rw [h]; rfl
  · have : x / 2 ^ n % 2 = 0 := by omega
    rw [this]; rfl
theorem pslN_bit (a : Int → Int) (g : Int) : ∀ (n i : Nat), i < n → (pslN a g n).testBit i = decide (a (11 + (i : Int)) = g) := by
  intro n
  induction n with
  | zero => intro i h; omega
  | succ n ih =>
    intro i h
    unfold pslN
    rw [Nat.testBit_or]
    by_cases hi : i = n
    · subst hi
      rw [Nat.testBit_lt_two_pow (pslN_lt a g i), Bool.false_or]
      by_cases hq : a (11 + (i : Int)) = g
      · rw [if_pos hq, Nat.testBit_two_pow_self]; simp [hq]
      · rw [if_neg hq, Nat.zero_testBit]; simp [hq]
    · rw [ih i (by omega)]
      have : (if a (11 + (n : Int)) = g then 2 ^ n else 0).testBit i = false := by
        split
        · rw [Nat.testBit_two_pow_of_ne (by omega)]
        · exact Nat.zero_testBit i
      rw [this, Bool.or_false]
theorem pslices_bit {a : Int → Int} (h : SO a) (g : Int) {n : Nat} (hn : n < (a 3).toNat) : xand (xshr (pslices a g) (n : Int)) 1 = if a (11 + (n : Int)) = g then 1 else 0 := by
  have h3 := h.n
  unfold pslices
  have hl := pslN_lt a g (a 3).toNat
  have h2 : 2 ^ (a 3).toNat ≤ 2 ^ 10 := Nat.pow_le_pow_right (by decide) (by omega)
  rw [psl_N a g _ (by omega), xbit _ _ (by omega) (by omega), pslN_bit a g _ _ hn]
  by_cases hq : a (11 + (n : Int)) = g
  · simp [hq]
  · simp [hq]
/-- what all of a guest's are worth, straight -/
def phs (a : Int → Int) (g : Int) : Nat → Int
  | 0 => 0
  | n + 1 => phs a g n + (if a (11 + (n : Int)) = g then pw a g (n : Int) else 0)
theorem phas_eq {a : Int → Int} (h : SO a) (g : Int) : phas a g = phs a g (a 3).toNat := by
  unfold phas pworths
  have : ∀ n, n ≤ (a 3).toNat → pws a g (pslices a g) n = phs a g n := by
    intro n
    induction n with
    | zero => intro _; rfl
    | succ n ih =>
      intro hn
      unfold pws phs
      rw [ih (by omega), pslices_bit h g (by omega)]
      by_cases hq : a (11 + (n : Int)) = g
      · rw [if_pos hq, if_pos hq, if_pos rfl]
      · rw [if_neg hq, if_neg hq, if_neg (by decide)]
  exact this _ (Nat.le_refl _)
theorem psl_succ {a : Int → Int} {g : Int} {n : Nat} (hn : n < 10) : psl a g (n + 1) = if a (11 + (n : Int)) = g then xior (psl a g n) (xshl 1 (n : Int)) else psl a g n := by
  have e : psl a g (n + 1) = xior (psl a g n) (if a (11 + (n : Int)) = g then xshl 1 (n : Int) else 0) := rfl
  rw [e]
  split
  · rfl
  · have h1 := pslN_lt a g n
    have h2 : 2 ^ n ≤ 2 ^ 10 := Nat.pow_le_pow_right (by decide) (by omega)
    rw [psl_N a g n (by omega)]
    have := xior_n (pslN a g n) 0 (by omega) (by decide)
    rw [show ((0 : Nat) : Int) = 0 from rfl, Nat.or_zero] at this
    exact this
theorem pcont_succ {a : Int → Int} {n : Nat} (hn : n < 10) : pcont a (n + 1) = if a (21 + (n : Int)) ≤ phas a (n : Int) then xior (pcont a n) (xshl 1 (n : Int)) else pcont a n := by
  have e : pcont a (n + 1) = xior (pcont a n) (if a (21 + (n : Int)) ≤ phas a (n : Int) then xshl 1 (n : Int) else 0) := rfl
  rw [e]
  split
  · rfl
  · have h1 := pconN_lt a n
    have h2 : 2 ^ n ≤ 2 ^ 10 := Nat.pow_le_pow_right (by decide) (by omega)
    rw [pcon_N a n (by omega)]
    have := xior_n (pconN a n) 0 (by omega) (by decide)
    rw [show ((0 : Nat) : Int) = 0 from rfl, Nat.or_zero] at this
    exact this
/-! the class's feast and a table of it, as a row -/
def cvw (F Kd Z Tr Lk T O U P : Int → Int) : Int → Int := fun j => if j = 0 then F 0 else if j = 1 then T 1 else if j = 2 then F 2 else if j = 3 then F 3 else if j = 4 then F 4 else if j = 10 then T 2 else if 11 ≤ j ∧ j < 21 then O (j - 11) else if 21 ≤ j ∧ j < 26 then (if j - 21 < F 4 then U (j - 21) else 0) else if 26 ≤ j ∧ j < 36 then (if j - 26 < F 3 then Kd (j - 26) else 0) else if 36 ≤ j ∧ j < 46 then (if j - 36 < F 3 then Z (j - 36) else 0) else if 46 ≤ j ∧ j < 51 then (if j - 46 < F 4 then Tr (j - 46) else 0) else if 51 ≤ j ∧ j < 71 then Lk (j - 51) else P j
theorem cvw_o {F Kd Z Tr Lk T O U P : Int → Int} {s : Int} (h : 0 ≤ s ∧ s < 10) : cvw F Kd Z Tr Lk T O U P (11 + s) = O s := by
  unfold cvw
  rw [if_neg (by omega), if_neg (by omega), if_neg (by omega), if_neg (by omega), if_neg (by omega), if_neg (by omega), if_pos (by omega)]
  congr 1; omega
theorem cvw_u {F Kd Z Tr Lk T O U P : Int → Int} {g : Int} (h : 0 ≤ g ∧ g < F 4) (h5 : g < 5) : cvw F Kd Z Tr Lk T O U P (21 + g) = U g := by
  unfold cvw
  rw [if_neg (by omega), if_neg (by omega), if_neg (by omega), if_neg (by omega), if_neg (by omega), if_neg (by omega), if_neg (by omega), if_pos (by omega), if_pos (by omega)]
  congr 1; omega
theorem cvw_k {F Kd Z Tr Lk T O U P : Int → Int} {s : Int} (h : 0 ≤ s ∧ s < F 3) (h5 : s < 10) : cvw F Kd Z Tr Lk T O U P (26 + s) = Kd s := by
  unfold cvw
  rw [if_neg (by omega), if_neg (by omega), if_neg (by omega), if_neg (by omega), if_neg (by omega), if_neg (by omega), if_neg (by omega), if_neg (by omega), if_pos (by omega), if_pos (by omega)]
  congr 1; omega
theorem cvw_z {F Kd Z Tr Lk T O U P : Int → Int} {s : Int} (h : 0 ≤ s ∧ s < F 3) (h5 : s < 10) : cvw F Kd Z Tr Lk T O U P (36 + s) = Z s := by
  unfold cvw
  rw [if_neg (by omega), if_neg (by omega), if_neg (by omega), if_neg (by omega), if_neg (by omega), if_neg (by omega), if_neg (by omega), if_neg (by omega), if_neg (by omega), if_pos (by omega), if_pos (by omega)]
  congr 1; omega
theorem cvw_t {F Kd Z Tr Lk T O U P : Int → Int} {g : Int} (h : 0 ≤ g ∧ g < F 4) (h5 : g < 5) : cvw F Kd Z Tr Lk T O U P (46 + g) = Tr g := by
  unfold cvw
  rw [if_neg (by omega), if_neg (by omega), if_neg (by omega), if_neg (by omega), if_neg (by omega), if_neg (by omega), if_neg (by omega), if_neg (by omega), if_neg (by omega), if_neg (by omega), if_pos (by omega), if_pos (by omega)]
  congr 1; omega
theorem cvw_l {F Kd Z Tr Lk T O U P : Int → Int} {j : Int} (h : 0 ≤ j ∧ j < 20) : cvw F Kd Z Tr Lk T O U P (51 + j) = Lk j := by
  unfold cvw
  rw [if_neg (by omega), if_neg (by omega), if_neg (by omega), if_neg (by omega), if_neg (by omega), if_neg (by omega), if_neg (by omega), if_neg (by omega), if_neg (by omega), if_neg (by omega), if_neg (by omega), if_pos (by omega)]
  congr 1; omega
/-- it is in order, and the row of worths is right -/
def CO (F Kd Z Tr Lk Wt T O U P : Int → Int) : Prop := SO (cvw F Kd Z Tr Lk T O U P) ∧ ∀ g s, 0 ≤ g → g < F 4 → 0 ≤ s → s < F 3 → Wt (10 * g + s) = Z s * Lk (4 * g + Kd s)
theorem CO.w {F Kd Z Tr Lk Wt T O U P : Int → Int} (h : CO F Kd Z Tr Lk Wt T O U P) {g s : Int} (g0 : 0 ≤ g) (g1 : g < F 4) (s0 : 0 ≤ s) (s1 : s < F 3) : Wt (10 * g + s) = pw (cvw F Kd Z Tr Lk T O U P) g s := by
  have hn : 0 ≤ F 3 ∧ F 3 ≤ 10 := h.1.n
  have hg : 0 ≤ F 4 ∧ F 4 ≤ 5 := h.1.g
  have hk := h.1.k s0 (by omega)
  rw [h.2 g s g0 g1 s0 s1]
  unfold pw pl
  rw [cvw_z ⟨s0, s1⟩ (by omega), cvw_k ⟨s0, s1⟩ (by omega)] 
  rw [cvw_k ⟨s0, s1⟩ (by omega)] at hk
  rw [show 51 + 4 * g + Kd s = 51 + (4 * g + Kd s) by omega, cvw_l (by omega)]
