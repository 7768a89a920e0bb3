/-! game: both say the same -/
def Agr (a0 a : Int → Int) : Prop := ∀ j, (j < 11 ∨ 21 ≤ j) → a j = a0 j
theorem Agr_up {a0 a : Int → Int} (h : Agr a0 a) {s g : Int} (s0 : 0 ≤ s) (s1 : s < 10) : Agr a0 (xup a (11 + s) g) := fun j hj => by rw [xup_ne _ _ (by omega)]; exact h j hj
theorem Agr_pw {a0 a : Int → Int} (h : Agr a0 a) (hS : SO a0) {g s : Int} (g0 : 0 ≤ g) (s0 : 0 ≤ s) (s1 : s < 10) : pw a g s = pw a0 g s := by
  unfold pw pl
  have k := hS.k s0 s1
  rw [h (36 + s) (by omega), h (26 + s) (by omega), h (51 + 4 * g + a0 (26 + s)) (by omega)]
theorem phs_up {a : Int → Int} (h : SO a) {s g j : Int} (hf : a (11 + s) = -1) (s0 : 0 ≤ s) (s1 : s < 10) (j0 : 0 ≤ j) : ∀ n : Nat, n ≤ 10 → phs (xup a (11 + s) g) j n = phs a j n + (if s < (n : Int) ∧ g = j then pw a j s else 0) := by
  intro n
  induction n with
  | zero => intro _; rw [if_neg (by omega)]; rfl
  | succ n ih =>
    intro hn
    have e := Agr_pw (Agr_up (a0 := a) (a := a) (s := s) (g := g) (fun _ _ => rfl) s0 s1) h (g := j) (s := (n : Int)) j0 (by omega) (by omega)
    unfold phs
    rw [ih (by omega), e]
    by_cases q : (n : Int) = s
    · rw [q, xup_same, hf]
      (repeat' split) <;> omega
    · rw [xup_ne _ _ (by omega)]
      (repeat' split) <;> omega
theorem phas_up {a : Int → Int} (h : SO a) {s g j : Int} (hf : a (11 + s) = -1) (s0 : 0 ≤ s) (s1 : s < a 3) (j0 : 0 ≤ j) (g0 : -1 ≤ g) (g1 : g < a 4) : phas (xup a (11 + s) g) j = phas a j + (if g = j then pw a j s else 0) := by
  have hn := h.n
  have e3 : xup a (11 + s) g 3 = a 3 := xup_ne _ _ (by omega)
  rw [phas_eq h, phas_eq (SO_own h s0 (by omega) g0 g1), e3, phs_up h hf s0 (by omega) j0 _ (by omega)]
  by_cases q : g = j
  · rw [if_pos q, if_pos ⟨by omega, q⟩]
  · rw [if_neg q, if_neg (fun r => q r.2)]
theorem xxor_n (a b : Nat) (ha : a < 2 ^ 31) (hb : b < 2 ^ 31) : xxor (a : Int) (b : Int) = ((a ^^^ b : Nat) : Int) := by
  unfold xxor
  rw [Int32.ofInt_eq_ofNat, Int32.ofInt_eq_ofNat]
  have e : Int32.ofNat a ^^^ Int32.ofNat b = Int32.ofNat (a ^^^ b) := by
    apply Int32.toBitVec.inj
    show BitVec.ofNat 32 a ^^^ BitVec.ofNat 32 b = BitVec.ofNat 32 (a ^^^ b)
    exact (BitVec.ofNat_xor (x := a) (y := b) (w := 32)).symm
  rw [e, ← Int32.ofInt_eq_ofNat]
  have := Nat.xor_lt_two_pow ha hb
  exact Int32.toInt_ofInt_of_le (by omega) (by omega)
theorem xxor_rg {x : Int} {n : Nat} (h0 : 0 ≤ x) (h1 : x < 1024) (hn : n < 10) : 0 ≤ xxor x (xshl 1 (n : Int)) ∧ xxor x (xshl 1 (n : Int)) < 1024 := by
  rw [show x = ((x.toNat : Nat) : Int) by omega, xshl_n (by omega)]
  have h2 : 2 ^ n < 2 ^ 10 := Nat.pow_lt_pow_right (by decide) hn
  rw [xxor_n _ _ (by omega) (by omega)]
  have := Nat.xor_lt_two_pow (n := 10) (x := x.toNat) (y := 2 ^ n) (by omega) h2
  omega
theorem pslN_up {a : Int → Int} {s : Nat} {g : Int} (hf : a (11 + (s : Int)) = -1) (hg : 0 ≤ g) {n : Nat} (hs : s < n) : pslN (xup a (11 + (s : Int)) g) (-1) n = pslN a (-1) n ^^^ 2 ^ s := by
  have b1 := pslN_lt (xup a (11 + (s : Int)) g) (-1) n
  have b2 := Nat.xor_lt_two_pow (pslN_lt a (-1) n) (Nat.pow_lt_pow_right (a := 2) (by decide) hs)
  apply Nat.eq_of_testBit_eq
  intro i
  by_cases hi : i < n
  · rw [Nat.testBit_xor, pslN_bit _ _ _ _ hi, pslN_bit _ _ _ _ hi]
    by_cases q : i = s
    · subst q
      rw [xup_same, hf, Nat.testBit_two_pow_self]
      simp; omega
    · rw [xup_ne _ _ (by omega), Nat.testBit_two_pow_of_ne (by omega), Bool.xor_false]
  · rw [Nat.testBit_lt_two_pow (Nat.lt_of_lt_of_le b1 (Nat.pow_le_pow_right (by decide) (by omega))), Nat.testBit_lt_two_pow (Nat.lt_of_lt_of_le b2 (Nat.pow_le_pow_right (by decide) (by omega)))]
theorem pslices_up {a : Int → Int} (h : SO a) {s : Nat} {g : Int} (hf : a (11 + (s : Int)) = -1) (hg : 0 ≤ g) (hs : (s : Int) < a 3) : pslices (xup a (11 + (s : Int)) g) (-1) = xxor (pslices a (-1)) (xshl 1 (s : Int)) := by
  have hn := h.n
  have e3 : xup a (11 + (s : Int)) g 3 = a 3 := xup_ne _ _ (by omega)
  have hl := pslN_lt a (-1) (a 3).toNat
  have h2 : 2 ^ (a 3).toNat ≤ 2 ^ 10 := Nat.pow_le_pow_right (by decide) (by omega)
  have h3 : 2 ^ s < 2 ^ 10 := Nat.pow_lt_pow_right (by decide) (by omega)
  unfold pslices
  rw [e3, psl_N _ _ _ (by omega), psl_N _ _ _ (by omega), xshl_n (by omega), xxor_n _ _ (by omega) (by omega), pslN_up hf hg (by omega)]
def cpf (G : Int → Int) (fr : Int) : Nat → Int × Int
  | 0 => (0, 0)
  | n + 1 => if xand (xshr fr (n : Int)) 1 = 0 then cpf G fr n else ((if (cpf G fr n).2 = 0 then G (n : Int) else if (cpf G fr n).1 < G (n : Int) then G (n : Int) else (cpf G fr n).1), 1)
def cpl (W : Int → Int → Int) (N : Nat) : Nat → Int → Int → Int → Int
  | 0, _, _, _ => 0
  | m + 1, mv, wt, fr => if fr = 0 then 0 else (cpf (fun s => W mv s - cpl W N m wt mv (xxor fr (xshl 1 s))) fr N).1
def cgf (G : Int → Int) (fr now : Int) : Nat → Int × Int
  | 0 => (now, -1)
  | n + 1 => if xand (xshr fr (n : Int)) 1 = 0 then cgf G fr now n else if (cgf G fr now n).2 = -1 ∨ (cgf G fr now n).1 < now + G (n : Int) then (now + G (n : Int), (n : Int)) else cgf G fr now n
theorem pgl_snoc {V : (Int → Int) → Int} {k g : Int} {a : Int → Int} : ∀ (r : Nat) (s : Int) (st : Int × Int × Int), pgl V k g a (r + 1) s st = if a (11 + (s + (r : Int))) < 0 then giw (pgl V k g a r s st).1 (pgl V k g a r s st).2.1 (pgl V k g a r s st).2.2 (s + (r : Int)) k (V (xup a (11 + (s + (r : Int))) g)) else pgl V k g a r s st := by
  intro r
  induction r with
  | zero => intro s st; rw [show s + ((0 : Nat) : Int) = s by omega]; rfl
  | succ r ih =>
    intro s st
    have e : pgl V k g a (r + 1 + 1) s st = pgl V k g a (r + 1) (s + 1) (if a (11 + s) < 0 then giw st.1 st.2.1 st.2.2 s k (V (xup a (11 + s) g)) else st) := rfl
    have e2 : pgl V k g a (r + 1) s st = pgl V k g a r (s + 1) (if a (11 + s) < 0 then giw st.1 st.2.1 st.2.2 s k (V (xup a (11 + s) g)) else st) := rfl
    rw [e, ih, ← e2, show s + 1 + (r : Int) = s + ((r + 1 : Nat) : Int) by omega]
theorem pgl_cpf {V : (Int → Int) → Int} {k g fr base : Int} {sg : Int} {a Gf : Int → Int} {N : Nat} (hsg : (k % 2 = 0 ∧ sg = 1) ∨ (¬ k % 2 = 0 ∧ sg = -1)) (hbit : ∀ n : Nat, n < N → xand (xshr fr (n : Int)) 1 = if a (11 + (n : Int)) = -1 then 1 else 0) (hfr : ∀ n : Nat, n < N → -1 ≤ a (11 + (n : Int))) (hV : ∀ n : Nat, n < N → a (11 + (n : Int)) = -1 → V (xup a (11 + (n : Int)) g) = base + sg * Gf (n : Int)) : ∀ n : Nat, n ≤ N → (pgl V k g a n 0 (0, 0, 0)).1 = (cpf Gf fr n).2 ∧ ((cpf Gf fr n).2 = 0 ∨ (cpf Gf fr n).2 = 1) ∧ ((cpf Gf fr n).2 = 1 → (pgl V k g a n 0 (0, 0, 0)).2.1 = base + sg * (cpf Gf fr n).1) := by
  intro n
  induction n with
  | zero => intro _; exact ⟨rfl, Or.inl rfl, fun q => absurd (show (0 : Int) = 1 from q) (by decide)⟩
  | succ n ih =>
    intro hn
    obtain ⟨i1, i2, i3⟩ := ih (by omega)
    have hb := hbit n (by omega)
    have hf := hfr n (by omega)
    have e : cpf Gf fr (n + 1) = if xand (xshr fr (n : Int)) 1 = 0 then cpf Gf fr n else ((if (cpf Gf fr n).2 = 0 then Gf (n : Int) else if (cpf Gf fr n).1 < Gf (n : Int) then Gf (n : Int) else (cpf Gf fr n).1), 1) := rfl
    rw [e, pgl_snoc, Int.zero_add]
    by_cases q : a (11 + (n : Int)) = -1
    · rw [if_pos q] at hb
      rw [hb, if_neg (show ¬ (1 : Int) = 0 by decide), if_pos (show a (11 + (n : Int)) < 0 by omega), hV n (by omega) q]
      unfold giw
      rw [i1]
      generalize hu : cpf Gf fr n = u at *
      generalize hw : Gf (n : Int) = w at *
      rcases i2 with z | z
      · rw [if_pos (Or.inl z), if_pos z]
        exact ⟨rfl, Or.inr rfl, fun _ => rfl⟩
      · rw [if_neg (show ¬ u.2 = 0 by omega)]
        rw [i3 z]
        rcases hsg with ⟨k0, rfl⟩ | ⟨k0, rfl⟩
        · by_cases q2 : u.1 < w
          · rw [if_pos (by omega), if_pos q2]
            exact ⟨rfl, Or.inr rfl, fun _ => rfl⟩
          · rw [if_neg (by omega), if_neg q2]
            exact ⟨by show u.2 = 1; omega, Or.inr rfl, fun _ => rfl⟩
        · by_cases q2 : u.1 < w
          · rw [if_pos (by omega), if_pos q2]
            exact ⟨rfl, Or.inr rfl, fun _ => rfl⟩
          · rw [if_neg (by omega), if_neg q2]
            exact ⟨by show u.2 = 1; omega, Or.inr rfl, fun _ => rfl⟩
    · rw [if_neg q] at hb
      rw [hb, if_pos rfl, if_neg (show ¬ a (11 + (n : Int)) < 0 by omega)]
      exact ⟨i1, i2, i3⟩
theorem pgl_cgf {V : (Int → Int) → Int} {g fr now : Int} {a Gf : Int → Int} {N : Nat} (hbit : ∀ n : Nat, n < N → xand (xshr fr (n : Int)) 1 = if a (11 + (n : Int)) = -1 then 1 else 0) (hfr : ∀ n : Nat, n < N → -1 ≤ a (11 + (n : Int))) (hV : ∀ n : Nat, n < N → a (11 + (n : Int)) = -1 → V (xup a (11 + (n : Int)) g) = now + Gf (n : Int)) : ∀ n : Nat, n ≤ N → ((pgl V 0 g a n 0 (0, 0, 0)).1 = 0 ∧ cgf Gf fr now n = (now, -1)) ∨ ((pgl V 0 g a n 0 (0, 0, 0)).1 = 1 ∧ (pgl V 0 g a n 0 (0, 0, 0)).2.1 = (cgf Gf fr now n).1 ∧ (pgl V 0 g a n 0 (0, 0, 0)).2.2 = (cgf Gf fr now n).2 ∧ 0 ≤ (cgf Gf fr now n).2) := by
  intro n
  induction n with
  | zero => intro _; exact Or.inl ⟨rfl, rfl⟩
  | succ n ih =>
    intro hn
    have ih := ih (by omega)
    have hb := hbit n (by omega)
    have hf := hfr n (by omega)
    have e : cgf Gf fr now (n + 1) = if xand (xshr fr (n : Int)) 1 = 0 then cgf Gf fr now n else if (cgf Gf fr now n).2 = -1 ∨ (cgf Gf fr now n).1 < now + Gf (n : Int) then (now + Gf (n : Int), (n : Int)) else cgf Gf fr now n := rfl
    rw [e, pgl_snoc, Int.zero_add]
    by_cases q : a (11 + (n : Int)) = -1
    · rw [if_pos q] at hb
      rw [hb, if_neg (show ¬ (1 : Int) = 0 by decide), if_pos (show a (11 + (n : Int)) < 0 by omega), hV n (by omega) q]
      unfold giw
      rcases ih with ⟨z, z2⟩ | ⟨z1, z2, z3, z4⟩
      · rw [if_pos (Or.inl z), z2, if_pos (Or.inl rfl)]
        exact Or.inr ⟨rfl, rfl, by simp, by show (0 : Int) ≤ (n : Int); omega⟩
      · rw [z1, z2, z3]
        generalize hu : cgf Gf fr now n = u at *
        by_cases q2 : u.1 < now + Gf (n : Int)
        · rw [if_pos (Or.inr (Or.inl ⟨by decide, q2⟩)), if_pos (Or.inr q2)]
          exact Or.inr ⟨rfl, rfl, by simp, by show (0 : Int) ≤ (n : Int); omega⟩
        · rw [if_neg (by omega), if_neg (by omega)]
          exact Or.inr ⟨rfl, rfl, rfl, z4⟩
    · rw [if_neg q] at hb
      rw [hb, if_pos rfl, if_neg (show ¬ a (11 + (n : Int)) < 0 by omega)]
      exact ih
theorem pgv_cpl {a0 : Int → Int} (h0 : SO a0) {on ot : Int} (hon : 0 ≤ on ∧ on < 5) (hot : 0 ≤ ot ∧ ot < 5) (hne : ¬ on = ot) : ∀ (m : Nat) (k : Int) (a : Int → Int), SO a → Agr a0 a → on < a 4 → ot < a 4 → pgv on ot m k a = phas a on - phas a ot + (if k % 2 = 0 then cpl (pw a0) (a0 3).toNat m on ot (pslices a (-1)) else - cpl (pw a0) (a0 3).toNat m ot on (pslices a (-1))) := by
  intro m
  induction m with
  | zero =>
    intro k a h hA q1 q2
    show phas a on - phas a ot = phas a on - phas a ot + (if k % 2 = 0 then 0 else - 0)
    split <;> omega
  | succ m ih =>
    intro k a h hA q1 q2
    have hn := h.n
    have e03 : a 3 = a0 3 := hA 3 (by omega)
    unfold pgv
    by_cases hz : pslices a (-1) = 0
    · rw [if_pos hz]
      unfold cpl
      rw [if_pos hz, if_pos hz]
      split <;> omega
    · rw [if_neg hz]
      obtain ⟨i9, i90, i91, i92⟩ := pfree h hz
      have hbit : ∀ n : Nat, n < (a 3).toNat → xand (xshr (pslices a (-1)) (n : Int)) 1 = if a (11 + (n : Int)) = -1 then 1 else 0 := fun n hn => pslices_bit h (-1) hn
      have hfr : ∀ n : Nat, n < (a 3).toNat → -1 ≤ a (11 + (n : Int)) := fun n hn => (h.w (by omega) (by omega)).1
      have hstep : ∀ (n : Nat) (g : Int), n < (a 3).toNat → a (11 + (n : Int)) = -1 → 0 ≤ g → g < a 4 → SO (xup a (11 + (n : Int)) g) ∧ Agr a0 (xup a (11 + (n : Int)) g) ∧ xup a (11 + (n : Int)) g 4 = a 4 ∧ pslices (xup a (11 + (n : Int)) g) (-1) = xxor (pslices a (-1)) (xshl 1 (n : Int)) := fun n g h1 h2 h3 h4 => ⟨SO_own h (by omega) (by omega) (by omega) h4, Agr_up hA (by omega) (by omega), xup_ne _ _ (by omega), pslices_up h h2 h3 (by omega)⟩
      by_cases qk : k % 2 = 0
      · rw [if_pos qk, if_pos qk]
        have hV : ∀ n : Nat, n < (a 3).toNat → a (11 + (n : Int)) = -1 → pgv on ot m (k + 1) (xup a (11 + (n : Int)) on) = (phas a on - phas a ot) + 1 * (fun s => pw a0 on s - cpl (pw a0) (a0 3).toNat m ot on (xxor (pslices a (-1)) (xshl 1 s))) (n : Int) := by
          intro n h1 h2
          obtain ⟨g1, g2, g3, g4⟩ := hstep n on h1 h2 hon.1 q1
          rw [ih (k + 1) _ g1 g2 (by omega) (by omega), if_neg (by omega), g4, phas_up h h2 (by omega) (by omega) hon.1 (by omega) q1, phas_up h h2 (by omega) (by omega) hot.1 (by omega) q1, if_pos rfl, if_neg hne, Agr_pw hA h0 hon.1 (by omega) (by omega)]
          show _ = phas a on - phas a ot + 1 * (pw a0 on (n : Int) - cpl (pw a0) (a0 3).toNat m ot on (xxor (pslices a (-1)) (xshl 1 (n : Int))))
          omega
        have := pgl_cpf (V := pgv on ot m (k + 1)) (g := on) (base := phas a on - phas a ot) (Gf := fun s => pw a0 on s - cpl (pw a0) (a0 3).toNat m ot on (xxor (pslices a (-1)) (xshl 1 s))) (Or.inl ⟨qk, rfl⟩) hbit hfr hV (a 3).toNat (Nat.le_refl _)
        have hany := pgl_any (V := pgv on ot m (k + 1)) (k := k) (g := on) (a := a) (a 3).toNat 0 (0, 0, 0) i9 (Or.inl rfl) (by omega) (by omega) (by omega)
        rw [this.1] at hany
        have ec : cpl (pw a0) (a0 3).toNat (m + 1) on ot (pslices a (-1)) = if pslices a (-1) = 0 then 0 else (cpf (fun s => pw a0 on s - cpl (pw a0) (a0 3).toNat m ot on (xxor (pslices a (-1)) (xshl 1 s))) (pslices a (-1)) (a0 3).toNat).1 := rfl
        rw [this.2.2 hany, ec, if_neg hz, e03]
        omega
      · rw [if_neg qk, if_neg qk]
        have hV : ∀ n : Nat, n < (a 3).toNat → a (11 + (n : Int)) = -1 → pgv on ot m (k + 1) (xup a (11 + (n : Int)) ot) = (phas a on - phas a ot) + (-1) * (fun s => pw a0 ot s - cpl (pw a0) (a0 3).toNat m on ot (xxor (pslices a (-1)) (xshl 1 s))) (n : Int) := by
          intro n h1 h2
          obtain ⟨g1, g2, g3, g4⟩ := hstep n ot h1 h2 hot.1 q2
          rw [ih (k + 1) _ g1 g2 (by omega) (by omega), if_pos (by omega), g4, phas_up h h2 (by omega) (by omega) hon.1 (by omega) q2, phas_up h h2 (by omega) (by omega) hot.1 (by omega) q2, if_pos rfl, if_neg (fun e => hne e.symm), Agr_pw hA h0 hot.1 (by omega) (by omega)]
          show _ = phas a on - phas a ot + (-1) * (pw a0 ot (n : Int) - cpl (pw a0) (a0 3).toNat m on ot (xxor (pslices a (-1)) (xshl 1 (n : Int))))
          omega
        have := pgl_cpf (V := pgv on ot m (k + 1)) (g := ot) (base := phas a on - phas a ot) (Gf := fun s => pw a0 ot s - cpl (pw a0) (a0 3).toNat m on ot (xxor (pslices a (-1)) (xshl 1 s))) (Or.inr ⟨qk, rfl⟩) hbit hfr hV (a 3).toNat (Nat.le_refl _)
        have hany := pgl_any (V := pgv on ot m (k + 1)) (k := k) (g := ot) (a := a) (a 3).toNat 0 (0, 0, 0) i9 (Or.inl rfl) (by omega) (by omega) (by omega)
        rw [this.1] at hany
        have ec : cpl (pw a0) (a0 3).toNat (m + 1) ot on (pslices a (-1)) = if pslices a (-1) = 0 then 0 else (cpf (fun s => pw a0 ot s - cpl (pw a0) (a0 3).toNat m on ot (xxor (pslices a (-1)) (xshl 1 s))) (pslices a (-1)) (a0 3).toNat).1 := rfl
        rw [this.2.2 hany, ec, if_neg hz, e03]
        omega
theorem cgf_0 {G : Int → Int} {now : Int} : ∀ n : Nat, n ≤ 10 → cgf G 0 now n = (now, -1) := by
  intro n
  induction n with
  | zero => intro _; rfl
  | succ n ih =>
    intro hn
    have := xbit 0 n (by decide) (by omega)
    rw [Nat.zero_testBit, if_neg (by decide), show ((0 : Nat) : Int) = 0 from rfl] at this
    unfold cgf
    rw [if_pos this]
    exact ih (by omega)
def cga (a : Int → Int) (on ot n : Int) : Int × Int := cgf (fun s => pw a on s - cpl (pw a) (a 3).toNat (n - 1).toNat ot on (xxor (pslices a (-1)) (xshl 1 s))) (pslices a (-1)) (phas a on - phas a ot) (a 3).toNat
theorem qgame_c {a : Int → Int} (h : SO a) {on ot n what : Int} (hon : 0 ≤ on ∧ on < a 4) (hot : 0 ≤ ot ∧ ot < a 4) (hne : ¬ on = ot) : qgame a on ot n what = if what = 0 then (cga a on ot n).1 else (cga a on ot n).2 := by
  have hn := h.n
  have hg := h.g
  unfold qgame
  by_cases hz : pslices a (-1) = 0
  · rw [if_pos hz]
    unfold cga
    rw [hz, cgf_0 _ (by omega)]
  · rw [if_neg hz]
    obtain ⟨i9, i90, i91, i92⟩ := pfree h hz
    have hbit : ∀ n : Nat, n < (a 3).toNat → xand (xshr (pslices a (-1)) (n : Int)) 1 = if a (11 + (n : Int)) = -1 then 1 else 0 := fun n hn => pslices_bit h (-1) hn
    have hfr : ∀ n : Nat, n < (a 3).toNat → -1 ≤ a (11 + (n : Int)) := fun n hn => (h.w (by omega) (by omega)).1
    have hV : ∀ s : Nat, s < (a 3).toNat → a (11 + (s : Int)) = -1 → pgv on ot (n - 1).toNat 1 (xup a (11 + (s : Int)) on) = (phas a on - phas a ot) + (fun s => pw a on s - cpl (pw a) (a 3).toNat (n - 1).toNat ot on (xxor (pslices a (-1)) (xshl 1 s))) (s : Int) := by
      intro s h1 h2
      rw [pgv_cpl h (by omega) (by omega) hne (n - 1).toNat 1 _ (SO_own h (by omega) (by omega) (by omega) hon.2) (Agr_up (fun _ _ => rfl) (by omega) (by omega)) (by rw [xup_ne _ _ (by omega)]; exact hon.2) (by rw [xup_ne _ _ (by omega)]; exact hot.2), if_neg (by decide), pslices_up h h2 hon.1 (by omega), phas_up h h2 (by omega) (by omega) hon.1 (by omega) hon.2, phas_up h h2 (by omega) (by omega) hot.1 (by omega) hon.2, if_pos rfl, if_neg hne]
      show _ = phas a on - phas a ot + (pw a on (s : Int) - cpl (pw a) (a 3).toNat (n - 1).toNat ot on (xxor (pslices a (-1)) (xshl 1 (s : Int))))
      omega
    have := pgl_cgf (V := pgv on ot (n - 1).toNat 1) (g := on) (now := phas a on - phas a ot) (Gf := fun s => pw a on s - cpl (pw a) (a 3).toNat (n - 1).toNat ot on (xxor (pslices a (-1)) (xshl 1 s))) hbit hfr hV (a 3).toNat (Nat.le_refl _)
    have hany := pgl_any (V := pgv on ot (n - 1).toNat 1) (k := 0) (g := on) (a := a) (a 3).toNat 0 (0, 0, 0) i9 (Or.inl rfl) (by omega) (by omega) (by omega)
    rcases this with ⟨z, _⟩ | ⟨z1, z2, z3, z4⟩
    · omega
    · rw [z2, z3]; rfl
