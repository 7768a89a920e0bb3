/-! the rule in force says the same by both (or there is none) -/
theorem pval_c {f : Int} {R R2 : (Int → Int64) → Int64} (h : f < 0 ∨ R = R2) (a : Int → Int) (g s : Int) : pval f R a g s = pval f R2 a g s := by
  rcases h with h | h
  · unfold pval; rw [if_pos h, if_pos h]
  · rw [h]
theorem pch_c {f : Int} {R R2 : (Int → Int64) → Int64} (h : f < 0 ∨ R = R2) (kk : Int) (a : Int → Int) (g : Int) : ∀ n, pch f R kk a g n = pch f R2 kk a g n := by
  intro n
  induction n with
  | zero => rfl
  | succ n ih => unfold pch; rw [ih, pval_c h]
theorem ppick_c {f : Int} {R R2 : (Int → Int64) → Int64} (h : f < 0 ∨ R = R2) (kk : Int) (a : Int → Int) : ppick f R kk a = ppick f R2 kk a := by
  unfold ppick pchoice
  rw [pch_c h]
theorem ppass_c {f : Int} {R R2 : (Int → Int64) → Int64} (h : f < 0 ∨ R = R2) (kk : Int) (a : Int → Int) : ppass f R kk a = ppass f R2 kk a := by
  unfold ppass
  rw [ppick_c h]
theorem ppassn_c {f : Int} {R R2 : (Int → Int64) → Int64} (h : f < 0 ∨ R = R2) (kk : Int) : ∀ (n : Nat) (a : Int → Int), ppassn f R kk n a = ppassn f R2 kk n a := by
  intro n
  induction n with
  | zero => intro a; rfl
  | succ n ih => intro a; show ppass f R kk _ = ppass f R2 kk _; rw [ih, ppass_c h]
theorem qahead_c {f : Int} {R R2 : (Int → Int64) → Int64} (h : f < 0 ∨ R = R2) (kk : Int) (a : Int → Int) (nu n w : Int) : qahead f R kk a nu n w = qahead f R2 kk a nu n w := by
  unfold qahead
  rw [ppassn_c h]
theorem pleft_c {f : Int} {R R2 : (Int → Int64) → Int64} (h : f < 0 ∨ R = R2) (kk : Int) : ∀ (n : Nat) (a : Int → Int), pleft f R kk n a = pleft f R2 kk n a := by
  intro n
  induction n with
  | zero => intro a; rfl
  | succ n ih => intro a; unfold pleft; rw [ih, ppass_c h]
theorem qbegin_c {f : Int} {R R2 : (Int → Int64) → Int64} (h : f < 0 ∨ R = R2) (kk : Int) (a : Int → Int) (gu n w : Int) : qbegin f R kk a gu n w = qbegin f R2 kk a gu n w := by
  have e : ∀ k, pbg f R kk a gu n k = pbg f R2 kk a gu n k := by
    intro k
    induction k with
    | zero => rfl
    | succ k ih => unfold pbg pbgm; rw [ih, ppassn_c h]
  unfold qbegin
  rw [e]
theorem qleave_c {f : Int} {R R2 : (Int → Int64) → Int64} (h : f < 0 ∨ R = R2) (kk : Int) (a : Int → Int) (n w : Int) : qleave f R kk a n w = qleave f R2 kk a n w := by
  have e : ∀ k, plv f R kk a n k = plv f R2 kk a n k := by
    intro k
    induction k with
    | zero => unfold plv; rw [ppassn_c h]
    | succ k ih => unfold plv plvm; rw [ih, ppassn_c h]
  unfold qleave
  rw [e]
theorem qkept_c {f : Int} {R R2 : (Int → Int64) → Int64} (h : f < 0 ∨ R = R2) (a : Int → Int) (n w : Int) : qkept f R a n w = qkept f R2 a n w := by
  have e : ∀ k, pkp f R a n k = pkp f R2 a n k := by
    intro k
    induction k with
    | zero => rfl
    | succ k ih => unfold pkp; rw [ih, ppassn_c h]
  unfold qkept
  rw [e]
theorem qflames_c {f : Int} {R R2 : (Int → Int64) → Int64} (h : f < 0 ∨ R = R2) (kk : Int) (a : Int → Int) (p n x m w : Int) : qflames f R kk a p n x m w = qflames f R2 kk a p n x m w := by
  have e0 : ∀ t, pfone f R kk p t = pfone f R2 kk p t := by
    intro t
    unfold pfone
    rw [ppass_c h, ppass_c h]
  have e1 : ∀ k t, pfn f R kk p k t = pfn f R2 kk p k t := by
    intro k
    induction k with
    | zero => intro t; rfl
    | succ k ih => intro t; unfold pfn; rw [ih, e0]
  have e2 : ∀ k, pft f R kk a p n x k = pft f R2 kk a p n x k := by
    intro k
    induction k with
    | zero => rfl
    | succ k ih => unfold pft; rw [ih, e1]
  unfold qflames
  rw [e2]
/-! WHAT HOLDS BETWEEN CALLS -/
/-- the tapes -/
def R1 (n1 n2 : Int) (b1 b2 : Int → Int) : Prop := n1 = n2 ∧ (0 ≤ n1 ∧ n1 ≤ 400) ∧ b1 = b2 ∧ ∀ j, 0 ≤ j → j < n1 → -128 ≤ b1 j ∧ b1 j ≤ 127
/-- the feast and the table: one row -/
def R2 (F Kd Z Tr Lk Wt T O U P : Int → Int) : Prop := P = cvw F Kd Z Tr Lk T O U P ∧ CO F Kd Z Tr Lk Wt T O U P ∧ T 2 ≤ 999 ∧ T 1 = F 1
/-- the rules -/
def R3 (rc rs f1 f2 : Int) (D : GD) (k0 s0 k1 s1 k2 s2 k3 s3 k4 s4 k5 s5 sg cl cn : Int → Int) : Prop := rc = (D.1 : Int) ∧ rs = (D.1 : Int) ∧ D.1 ≤ 6 ∧ f1 = f2 ∧ (-1 ≤ f1 ∧ f1 < (D.1 : Int)) ∧ (∀ f, -1 ≤ f → f < (D.1 : Int) → CRO k0 s0 k1 s1 k2 s2 k3 s3 k4 s4 k5 s5 D f) ∧ ROA sg cl cn (D.1 : Int) ∧ (∀ f, 0 ≤ f → f < (D.1 : Int) → cR k0 s0 k1 s1 k2 s2 k3 s3 k4 s4 k5 s5 D f = pR sg cl cn f)
def R4 (x1 x2 : Int) : Prop := x1 = x2 ∧ (0 ≤ x1 ∧ x1 < 2147483648)
def R5 (S6 N7 N8 N9 P F : Int → Int) (kk : Int) : Prop := NT S6 N7 N8 N9 P F ∧ NO P ∧ kk = 0
/-- a row of 16 among those kept, as a whole row -/
def psn (W P : Int → Int) (i : Int) : Int → Int := fun j => if 10 ≤ j ∧ j < 26 then W (16 * i + (j - 10)) else P j
def pundo (ac o p : Int) (a : Int → Int) : Int → Int := if ac = 0 then (if 0 ≤ o ∧ o < a 3 then xup (xup a 10 (a 10 - 1)) (11 + o) (-1) else xup a 10 (a 10 - 1)) else if ac = 1 ∨ ac = 2 then (if 0 ≤ o ∧ o < a 3 then xup a (11 + o) p else a) else if ac = 3 then xup (xup a (11 + o) (a (11 + p))) (11 + p) (a (11 + o)) else (if 0 ≤ o ∧ o < a 4 then xup a (21 + o) p else a)
/-- acts that can be undone: undoing the i-th brings what was kept -/
def R6 (kp nx un : Int) (A1 A2 A3 W P : Int → Int) : Prop := kp = un ∧ (0 ≤ kp ∧ kp ≤ 20) ∧ (0 ≤ nx ∧ nx < 20) ∧ ∀ i, 0 ≤ i → i < kp → SO (psn W P i) ∧ psn W P i 10 ≤ 999 ∧ psn W P i = pundo (A1 ((nx + 20 - kp + i) % 20)) (A2 ((nx + 20 - kp + i) % 20)) (A3 ((nx + 20 - kp + i) % 20)) (if i + 1 = kp then P else psn W P (i + 1)) ∧ (0 ≤ A1 ((nx + 20 - kp + i) % 20) ∧ A1 ((nx + 20 - kp + i) % 20) ≤ 4) ∧ (-1 ≤ A2 ((nx + 20 - kp + i) % 20) ∧ A2 ((nx + 20 - kp + i) % 20) < 10) ∧ (-1 ≤ A3 ((nx + 20 - kp + i) % 20) ∧ A3 ((nx + 20 - kp + i) % 20) ≤ 99) ∧ (A1 ((nx + 20 - kp + i) % 20) = 3 → (0 ≤ A2 ((nx + 20 - kp + i) % 20) ∧ A2 ((nx + 20 - kp + i) % 20) < P 3) ∧ (0 ≤ A3 ((nx + 20 - kp + i) % 20) ∧ A3 ((nx + 20 - kp + i) % 20) < P 3))
/-- an image: what it keeps is in order, and the same by both -/
def R7 (k m1 m2 : Int) (S F Kd Z Tr Lk Wt T O U N1 N2 N3 Im Fo Xs : Int → Int) (rs : Int) : Prop := m1 = m2 ∧ (m1 = 0 ∨ m1 = 1) ∧ (F 0 = 0 ∨ F 0 = 1) ∧ (m1 = 1 → R2 F Kd Z Tr Lk Wt T O U (fun j => if 0 ≤ j ∧ j < 102 then Im (102 * k + j) else 0) ∧ (S 2 = Fo k ∧ -1 ≤ S 2 ∧ S 2 < rs) ∧ R4 (S 3) (Xs k) ∧ R5 S N1 N2 N3 (fun j => if 0 ≤ j ∧ j < 102 then Im (102 * k + j) else 0) F 0)
def R8 (F120 F121 S97 S33 S105 : Int → Int) : Prop := (∀ j, F120 j = 0 ∨ F120 j = 1) ∧ (∀ j, -1 ≤ F121 j ∧ F121 j < 5) ∧ (∀ j, -1 ≤ S97 j ∧ S97 j < 5) ∧ (RB S33 ∧ RB S105)
def REL (I : XI) (D : GD) : Prop := (R1 (I 1 (6 : Int)) (I 101 (1 : Int)) (I 2) (I 102)) ∧ (R2 (I 10) (I 11) (I 12) (I 13) (I 14) (I 15) (I 16) (I 17) (I 18) (I 111)) ∧ (R3 (I 0 (4 : Int)) (I 101 (2 : Int)) (I 6 (2 : Int)) (I 101 (21 : Int)) D (I 127) (I 128) (I 130) (I 131) (I 133) (I 134) (I 136) (I 137) (I 139) (I 140) (I 142) (I 143) (I 103) (I 105) (I 106)) ∧ (R4 (I 6 (3 : Int)) (I 101 (22 : Int))) ∧ (R5 (I 6) (I 7) (I 8) (I 9) (I 111) (I 10) (I 101 (23 : Int))) ∧ (R6 (I 88 (0 : Int)) (I 88 (1 : Int)) (I 101 (25 : Int)) (I 89) (I 90) (I 91) (I 112) (I 111)) ∧ (R7 0 (I 87 (0 : Int)) (I 125 (0 : Int)) (I 35) (I 39) (I 40) (I 41) (I 42) (I 43) (I 44) (I 45) (I 46) (I 47) (I 36) (I 37) (I 38) (I 122) (I 123) (I 124) (I 101 (2 : Int)) ∧ R7 1 (I 87 (1 : Int)) (I 125 (1 : Int)) (I 48) (I 52) (I 53) (I 54) (I 55) (I 56) (I 57) (I 58) (I 59) (I 60) (I 49) (I 50) (I 51) (I 122) (I 123) (I 124) (I 101 (2 : Int)) ∧ R7 2 (I 87 (2 : Int)) (I 125 (2 : Int)) (I 61) (I 65) (I 66) (I 67) (I 68) (I 69) (I 70) (I 71) (I 72) (I 73) (I 62) (I 63) (I 64) (I 122) (I 123) (I 124) (I 101 (2 : Int)) ∧ R7 3 (I 87 (3 : Int)) (I 125 (3 : Int)) (I 74) (I 78) (I 79) (I 80) (I 81) (I 82) (I 83) (I 84) (I 85) (I 86) (I 75) (I 76) (I 77) (I 122) (I 123) (I 124) (I 101 (2 : Int))) ∧ (R8 (I 120) (I 121) (I 97) (I 33) (I 105))
theorem REL.rr {I : XI} {D : GD} (h : REL I D) : I 6 2 < 0 ∨ (cR (I 127) (I 128) (I 130) (I 131) (I 133) (I 134) (I 136) (I 137) (I 139) (I 140) (I 142) (I 143) D (I 6 2)) = pR (I 103) (I 105) (I 106) (I 101 21) := by
  obtain ⟨-, -, h3, -⟩ := h
  obtain ⟨-, -, -, e, hf, -, -, hR⟩ := h3
  by_cases q : I 6 2 < 0
  · exact Or.inl q
  · right
    rw [← e]
    exact hR _ (by omega) hf.2
