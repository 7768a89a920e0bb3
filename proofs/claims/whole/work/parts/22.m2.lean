/-! how many bits -/
def pbn (n : Nat) : Nat := (List.range 10).foldl (fun s i => s + n / 2 ^ i % 2) 0
def pbits (x : Int) : Int := (pbn x.toNat : Int)
theorem pb_all : (List.range 1024).all (fun n => decide (n = 0) || (decide (0 ≤ xand (n : Int) ((n : Int) - 1)) && decide (xand (n : Int) ((n : Int) - 1) < (n : Int)) && decide (pbn (xand (n : Int) ((n : Int) - 1)).toNat + 1 = pbn n))) = true := by decide +kernel
theorem pb_step {n : Nat} (h : n < 1024) (h0 : n ≠ 0) : 0 ≤ xand (n : Int) ((n : Int) - 1) ∧ xand (n : Int) ((n : Int) - 1) < (n : Int) ∧ pbn (xand (n : Int) ((n : Int) - 1)).toNat + 1 = pbn n := by
  have := List.all_eq_true.mp pb_all n (List.mem_range.mpr h)
  simp only [Bool.or_eq_true, Bool.and_eq_true, decide_eq_true_eq] at this
  rcases this with h1 | h1
  · exact absurd h1 h0
  · exact ⟨h1.1.1, h1.1.2, h1.2⟩
theorem pb_le : (List.range 1024).all (fun n => decide (pbn n ≤ 10)) = true := by decide +kernel
theorem pbits_rg {x : Int} (h0 : 0 ≤ x) (h1 : x < 1024) : 0 ≤ pbits x ∧ pbits x ≤ 10 := by
  have := of_decide_eq_true (List.all_eq_true.mp pb_le x.toNat (List.mem_range.mpr (by omega)))
  unfold pbits
  omega
theorem sg_149_0 {d : Nat} {I : XI} {L : XL} {D : GD} {post : XQ}  {u0 : Int} (h : xR d 149 es_149 4 [xi u0, xi (0 : Int), xi u0] [] I L (gG D) 0 0 post) : xR d 149 es_149 0 [xi u0, xt 0, xt 0] [] I L (gG D) 0 0 post := xW_R (fun k => Nat.beq k 4) 4 _ _ _ _ _ _ _ _ _ _ _ _ h
theorem w_149 {d : Nat} {I : XI} {L : XL} {D : GD} {post : XQ}   {s : Int} (hd : 0 ≤ d) (h : xR d 149 es_149 4 [xi s, xi (0 : Int), xi s] [] I L (gG D) 0 0 post) : xR d 149 es_149 0 [xi s, xt 0, xt 0] [] I L (gG D) 0 0 post := sg_149_0  (h)
theorem sg_149_4 {d : Nat} {I : XI} {L : XL} {D : GD} {post : XQ}  {u0 : Int} {u1 : Int} {u2 : Int} (h : ((-2147483648 ≤ u2 ∧ u2 ≤ 2147483647) ∧ ((u2 = 0 → post (some (xi u1)) I L (gG D)) ∧ (¬ u2 = 0 → xR d 149 es_149 4 [xi u0, xi (u1 + (1 : Int)), xi (xand u2 (u2 - (1 : Int)))] [] I L (gG D) 0 0 post)))) : xR d 149 es_149 4 [xi u0, xi u1, xi u2] [] I L (gG D) 0 0 post := xW_R (fun k => Nat.beq k 4) 10 _ _ _ _ _ _ _ _ _ _ _ _ h
theorem b_bits {d : Nat} {I : XI} {L : XL} {D : GD} {post : XQ}   {s : Int} {u : Int} {v : Int} (hd : 0 ≤ d) (h : (((-2147483648 ≤ v ∧ v ≤ 2147483647)) ∧ ((v = 0 → post (some (xi u)) I L (gG D)) ∧ (¬ v = 0 → xR d 149 es_149 4 [xi s, xi (u + (1 : Int)), xi (xand v (v - (1 : Int)))] [] I L (gG D) 0 0 post)))) : xR d 149 es_149 4 [xi s, xi u, xi v] [] I L (gG D) 0 0 post := sg_149_4  (⟨h.1, ⟨fun q29 => (h.2.1 q29), fun q30 => (h.2.2 q30)⟩⟩)
theorem c_149 {I : XI} {L : XL} {D : GD} {s : Int} (h : (0 ≤ s ∧ s < 1024)) : xM 0 149 [xi s] I L (gG D) (0, 0) (xD (some (xi (pbits s))) I L (gG D)) := by
  intro d hd
  refine w_149 (by omega) ?_
  have key : ∀ (N n : Nat) (u : Int), n ≤ N → n < 1024 → u + (pbn n : Int) = pbits s → xR d 149 es_149 4 [xi s, xi u, xi (n : Int)] [] I L (gG D) 0 0 (xD (some (xi (pbits s))) I L (gG D)) := by
    intro N
    induction N with
    | zero =>
      intro n u hn _ hu
      have : n = 0 := by omega
      subst this
      refine b_bits (by omega) ?_
      refine ⟨by omega, fun _ => ?_, fun h => absurd rfl h⟩
      refine xD_eq ?_ rfl rfl
      rw [← hu]
      have : (pbn 0 : Int) = 0 := rfl
      rw [this, Int.add_zero]
    | succ N ih =>
      intro n u hn h1 hu
      refine b_bits (by omega) ?_
      refine ⟨by omega, fun h => ?_, fun h => ?_⟩
      · have : n = 0 := by omega
        subst this
        refine xD_eq ?_ rfl rfl
        rw [← hu]
        have : (pbn 0 : Int) = 0 := rfl
        rw [this, Int.add_zero]
      · obtain ⟨g1, g2, g3⟩ := pb_step h1 (fun e => h (by rw [e]; rfl))
        have e : ((xand (n : Int) ((n : Int) - 1)).toNat : Int) = xand (n : Int) ((n : Int) - 1) := Int.toNat_of_nonneg g1
        have := ih (xand (n : Int) ((n : Int) - 1)).toNat (u + 1) (by omega) (by omega) (by omega)
        rw [e] at this
        exact this
  have := key s.toNat s.toNat 0 (Nat.le_refl _) (by omega) (by unfold pbits; omega)
  rw [Int.toNat_of_nonneg h.1] at this
  exact this
theorem xior_all : (List.range 32).all (fun j => decide (j ≥ 11) || decide (xshl 1 (j : Int) = 2 ^ j)) = true := by decide +kernel
theorem xior_n (a b : Nat) (ha : a < 2 ^ 31) (hb : b < 2 ^ 31) : xior (a : Int) (b : Int) = ((a ||| b : Nat) : Int) := by
  unfold xior
  rw [Int32.ofInt_eq_ofNat, Int32.ofInt_eq_ofNat]
  have e : Int32.ofNat a ||| Int32.ofNat b = Int32.ofNat (a ||| b) := by
    apply Int32.toBitVec.inj
    show BitVec.ofNat 32 a ||| BitVec.ofNat 32 b = BitVec.ofNat 32 (a ||| b)
    exact (BitVec.ofNat_or (x := a) (y := b) (w := 32)).symm
  rw [e, ← Int32.ofInt_eq_ofNat]
  have := Nat.or_lt_two_pow ha hb
  exact Int32.toInt_ofInt_of_le (by omega) (by omega)
theorem xshl_n {j : Nat} (h : j < 11) : xshl 1 (j : Int) = ((2 ^ j : Nat) : Int) := by
  have := List.all_eq_true.mp xior_all j (List.mem_range.mpr (by omega))
  simp only [Bool.or_eq_true, decide_eq_true_eq] at this
  rcases this with h1 | h1
  · omega
  · rw [h1]; simp
/-- the same set as a Nat -/
def pslN (a : Int → Int) (g : Int) : Nat → Nat
  | 0 => 0
  | n + 1 => pslN a g n ||| (if a (11 + (n : Int)) = g then 2 ^ n else 0)
theorem pslN_lt (a : Int → Int) (g : Int) : ∀ n, pslN a g n < 2 ^ n := by
  intro n
  induction n with
  | zero => exact Nat.zero_lt_one
  | succ n ih =>
    unfold pslN
    refine Nat.or_lt_two_pow (Nat.lt_of_lt_of_le ih (Nat.pow_le_pow_right (by decide) (Nat.le_succ n))) ?_
    split
    · exact Nat.pow_lt_pow_right (by decide) (Nat.lt_succ_self n)
    · exact Nat.two_pow_pos _
theorem psl_N (a : Int → Int) (g : Int) : ∀ n, n ≤ 10 → psl a g n = (pslN a g n : Int) := by
  intro n
  induction n with
  | zero => intro _; rfl
  | succ n ih =>
    intro hn
    have h1 := pslN_lt a g n
    have h2 : 2 ^ n ≤ 2 ^ 10 := Nat.pow_le_pow_right (by decide) (by omega)
    unfold psl pslN
    rw [ih (by omega)]
    split
    · rw [xshl_n (by omega), xior_n _ _ (by omega) (by omega)]
    · exact xior_n _ 0 (by omega) (by decide)
theorem pslices_rg {a : Int → Int} (h : SO a) (g : Int) : 0 ≤ pslices a g ∧ pslices a g < 1024 := by
  have hn := h.n
  unfold pslices
  rw [psl_N a g _ (by omega)]
  have := pslN_lt a g (a 3).toNat
  have h2 : 2 ^ (a 3).toNat ≤ 2 ^ 10 := Nat.pow_le_pow_right (by decide) (by omega)
  omega
