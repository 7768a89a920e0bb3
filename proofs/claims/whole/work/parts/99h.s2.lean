/-! the grammar of rules as a machine of steps: mode, loose, tight, where the sum stands (0 behind take, 1 left, 2 right of a comparison), the comparison's sign, place, parts; open, emitted, the clause's sum, the clauses done -/
abbrev SR : Type := Nat × Int × Int × Int × Int × Int × Int × List Int × List Int × List Int × List (List Int × List Int)
def sX (W : Int) : SR := (9, 0, 0, 0, 0, W, 0, [], [], [], [])
def sY (M : List (List Int × List Int)) : SR := (9, 0, 0, 0, 0, 0, 0, [], [], [], M)
def dpo : List Int → Int
  | [] => 0
  | x :: r => (if x = 11 ∨ x = 91 then 1 else 0) + dpo r
def cmo (b : Int → Int) (n p : Int) : Bool := decide ((tc b n p = 60 ∨ tc b n p = 62) ∧ tc b n (p + 1) = 61)
def cms (b : Int → Int) (n p : Int) : Int := if tc b n p = 60 then (if cmo b n p = true then 7 else 6) else if tc b n p = 61 then 8 else if cmo b n p = true then 9 else 10
def cme (b : Int → Int) (n p : Int) : Int := if cmo b n p = true then p + 2 else p + 1
def sstp (b : Int → Int) (n : Int) : SR → SR
  | (0, lo, ti, cx, sg, p, k, O, E, S, M) => if vfl b n (sk b n p) k = 0 then (1, lo, ti, cx, sg, sk b n (vnd b n (sk b n p)), k + 1, O, E ++ [vcd b n (sk b n p)], S, M) else sX (vfl b n (sk b n p) k)
  | (1, lo, ti, cx, sg, p, k, O, E, S, M) => if opcl (opc (tc b n p)) = true then (0, lo, opc (tc b n p), cx, sg, p + 1, k, O, E ++ opl ti, S, M) else (2, lo, -1, cx, sg, p, k, O, E ++ opl ti, S, M)
  | (2, lo, ti, cx, sg, p, k, O, E, S, M) => if opc (tc b n p) = 2 ∨ opc (tc b n p) = 3 then (0, opc (tc b n p), -1, cx, sg, p + 1, k, O, E ++ opl lo, S, M) else (3, -1, -1, cx, sg, p, k, O, E ++ opl lo, S, M)
  | (3, lo, ti, cx, sg, p, k, O, E, S, M) => if cx = 0 then (if tw b n p = 14 then (4, -1, -1, 0, 0, le_ b n p, k, [], [], E, M) else (6, -1, -1, 0, 0, p, k, [], [], [], M ++ [(E, [])])) else if cx = 1 then (if ¬ (tc b n p = 60 ∨ tc b n p = 61 ∨ tc b n p = 62) then sX (1 + 8 * p + 0) else if k = 60 then sX (1 + 8 * p + 3) else (0, -1, -1, 2, cms b n p, cme b n p, k + 1, O, E, S, M)) else (5, -1, -1, 0, 0, p, k, O, E ++ [sg], S, M)
  | (4, lo, ti, cx, sg, p, k, O, E, S, M) => if tw b n (sk b n p) = 15 then (if dpo O = 10 then sX (1 + 8 * sk b n p + 2) else (4, -1, -1, 0, 0, le_ b n (sk b n p), k, 11 :: O, E, S, M)) else if tc b n (sk b n p) = 91 then (if dpo O = 10 then sX (1 + 8 * sk b n p + 2) else (4, -1, -1, 0, 0, sk b n p + 1, k, 91 :: O, E, S, M)) else (0, -1, -1, 1, 0, p, k, O, E, S, M)
  | (5, lo, ti, cx, sg, p, k, O, E, S, M) => if O.headD 0 = 11 ∨ O.headD 0 = 12 then (5, -1, -1, 0, 0, p, k, O.tail, E ++ [O.headD 0], S, M) else if tw b n (sk b n p) = 16 then (4, -1, -1, 0, 0, le_ b n (sk b n p), k, 12 :: O, E, S, M) else if tw b n (sk b n p) = 17 then (if O.headD 0 = 13 then (4, -1, -1, 0, 0, le_ b n (sk b n p), k, O, E ++ [13], S, M) else (4, -1, -1, 0, 0, le_ b n (sk b n p), k, 13 :: O, E, S, M)) else if O.headD 0 = 13 then (7, -1, -1, 0, 0, sk b n p, k, O.tail, E ++ [13], S, M) else (7, -1, -1, 0, 0, sk b n p, k, O, E, S, M)
  | (7, lo, ti, cx, sg, p, k, O, E, S, M) => if O = [] then (6, -1, -1, 0, 0, p, k, [], [], [], M ++ [(S, E)]) else if tc b n p = 93 then (5, -1, -1, 0, 0, p + 1, k, O.tail, E, S, M) else sX (1 + 8 * p + 0)
  | (6, lo, ti, cx, sg, p, k, O, E, S, M) => if tc b n (sk b n p) = 59 then (8, -1, -1, 0, 0, sk b n p + 1, k, [], [], [], M) else if tc b n (sk b n p) = -1 then sY M else sX (1 + 8 * sk b n p + 0)
  | (8, lo, ti, cx, sg, p, k, O, E, S, M) => if ¬ tw b n (sk b n p) = 13 then sX (1 + 8 * sk b n p + 0) else if M.length = 12 then sX (1 + 8 * sk b n p + 4) else (0, -1, -1, 0, 0, le_ b n (sk b n p), k, [], [], [], M)
  | s => s
def sit (b : Int → Int) (n : Int) : Nat → SR → SR
  | 0, s => s
  | r + 1, s => sit b n r (sstp b n s)
def sIT (b : Int → Int) (n : Int) (s r : SR) : Prop := r.1 = 9 ∧ ∃ m, sit b n m s = r
/-- the same end -/
def Q (b : Int → Int) (n : Int) (s s2 : SR) : Prop := ∀ r, sIT b n s r ↔ sIT b n s2 r
theorem sstp_9 {b : Int → Int} {n : Int} {s : SR} (h : s.1 = 9) : sstp b n s = s := by
  obtain ⟨mo, lo, ti, cx, sg, p, k, O, E, S, M⟩ := s
  have h2 : mo = 9 := h
  subst h2
  rfl
theorem sit_9 {b : Int → Int} {n : Int} {s : SR} (h : s.1 = 9) : ∀ m, sit b n m s = s := by
  intro m
  induction m with
  | zero => rfl
  | succ m ih => show sit b n m (sstp b n s) = s; rw [sstp_9 h]; exact ih
theorem Q.rfl_ {b : Int → Int} {n : Int} {s : SR} : Q b n s s := fun _ => Iff.rfl
theorem Q.tr {b : Int → Int} {n : Int} {s s2 s3 : SR} (h : Q b n s s2) (h2 : Q b n s2 s3) : Q b n s s3 := fun r => (h r).trans (h2 r)
theorem Q.sy {b : Int → Int} {n : Int} {s s2 : SR} (h : Q b n s s2) : Q b n s2 s := fun r => (h r).symm
theorem Q_step {b : Int → Int} {n : Int} (s : SR) : Q b n s (sstp b n s) := by
  intro r
  constructor
  · rintro ⟨h9, m, hm⟩
    cases m with
    | zero =>
      have e : s = r := hm
      subst e
      exact ⟨h9, 0, sstp_9 h9⟩
    | succ m => exact ⟨h9, m, hm⟩
  · rintro ⟨h9, m, hm⟩
    exact ⟨h9, m + 1, hm⟩
theorem Q_st {b : Int → Int} {n : Int} {s s2 : SR} (h : sstp b n s = s2) : Q b n s s2 := h ▸ Q_step s
theorem Q_9 {b : Int → Int} {n : Int} {s s2 : SR} (h : Q b n s s2) (h1 : s.1 = 9) (h2 : s2.1 = 9) : s = s2 := by
  obtain ⟨_, m, hm⟩ := (h s).mp ⟨h1, 0, rfl⟩
  rw [sit_9 h2] at hm
  exact hm.symm
theorem Q_XX {b : Int → Int} {n W W2 : Int} (h : Q b n (sX W) (sX W2)) : W = W2 := congrArg (fun s : SR => s.2.2.2.2.2.1) (Q_9 h rfl rfl)
theorem Q_YY {b : Int → Int} {n : Int} {M M2 : List (List Int × List Int)} (h : Q b n (sY M) (sY M2)) : M = M2 := congrArg (fun s : SR => s.2.2.2.2.2.2.2.2.2.2) (Q_9 h rfl rfl)
theorem Q_XY {b : Int → Int} {n W : Int} {M2 : List (List Int × List Int)} (h : Q b n (sX W) (sY M2)) : W = 0 := congrArg (fun s : SR => s.2.2.2.2.2.1) (Q_9 h rfl rfl)
section
variable {b : Int → Int} {n lo ti cx sg p k : Int} {O E S : List Int} {M : List (List Int × List Int)}
theorem q0f (h : ¬ vfl b n (sk b n p) k = 0) : Q b n (0, lo, ti, cx, sg, p, k, O, E, S, M) (sX (vfl b n (sk b n p) k)) := Q_st (if_neg h)
theorem q0 (h : vfl b n (sk b n p) k = 0) : Q b n (0, lo, ti, cx, sg, p, k, O, E, S, M) (1, lo, ti, cx, sg, sk b n (vnd b n (sk b n p)), k + 1, O, E ++ [vcd b n (sk b n p)], S, M) := Q_st (if_pos h)
theorem q1c (h : opcl (opc (tc b n p)) = true) : Q b n (1, lo, ti, cx, sg, p, k, O, E, S, M) (0, lo, opc (tc b n p), cx, sg, p + 1, k, O, E ++ opl ti, S, M) := Q_st (if_pos h)
theorem q1n (h : ¬ opcl (opc (tc b n p)) = true) : Q b n (1, lo, ti, cx, sg, p, k, O, E, S, M) (2, lo, -1, cx, sg, p, k, O, E ++ opl ti, S, M) := Q_st (if_neg h)
theorem q2c (h : opc (tc b n p) = 2 ∨ opc (tc b n p) = 3) : Q b n (2, lo, ti, cx, sg, p, k, O, E, S, M) (0, opc (tc b n p), -1, cx, sg, p + 1, k, O, E ++ opl lo, S, M) := Q_st (if_pos h)
theorem q2n (h : ¬ (opc (tc b n p) = 2 ∨ opc (tc b n p) = 3)) : Q b n (2, lo, ti, cx, sg, p, k, O, E, S, M) (3, -1, -1, cx, sg, p, k, O, E ++ opl lo, S, M) := Q_st (if_neg h)
theorem q30i (h : tw b n p = 14) : Q b n (3, lo, ti, 0, sg, p, k, O, E, S, M) (4, -1, -1, 0, 0, le_ b n p, k, [], [], E, M) := Q_st (if_pos h)
theorem q30n (h : ¬ tw b n p = 14) : Q b n (3, lo, ti, 0, sg, p, k, O, E, S, M) (6, -1, -1, 0, 0, p, k, [], [], [], M ++ [(E, [])]) := Q_st (if_neg h)
theorem q31a (h : ¬ (tc b n p = 60 ∨ tc b n p = 61 ∨ tc b n p = 62)) : Q b n (3, lo, ti, 1, sg, p, k, O, E, S, M) (sX (1 + 8 * p + 0)) := Q_st (if_pos h)
theorem q31b (h : tc b n p = 60 ∨ tc b n p = 61 ∨ tc b n p = 62) (hk : k = 60) : Q b n (3, lo, ti, 1, sg, p, k, O, E, S, M) (sX (1 + 8 * p + 3)) := Q_st ((if_neg (fun r => r h)).trans (if_pos hk))
theorem q31c (h : tc b n p = 60 ∨ tc b n p = 61 ∨ tc b n p = 62) (hk : ¬ k = 60) : Q b n (3, lo, ti, 1, sg, p, k, O, E, S, M) (0, -1, -1, 2, cms b n p, cme b n p, k + 1, O, E, S, M) := Q_st ((if_neg (fun r => r h)).trans (if_neg hk))
theorem q32 : Q b n (3, lo, ti, 2, sg, p, k, O, E, S, M) (5, -1, -1, 0, 0, p, k, O, E ++ [sg], S, M) := Q_st rfl
theorem q4nf (h : tw b n (sk b n p) = 15) (hd : dpo O = 10) : Q b n (4, lo, ti, cx, sg, p, k, O, E, S, M) (sX (1 + 8 * sk b n p + 2)) := Q_st ((if_pos h).trans (if_pos hd))
theorem q4n (h : tw b n (sk b n p) = 15) (hd : ¬ dpo O = 10) : Q b n (4, lo, ti, cx, sg, p, k, O, E, S, M) (4, -1, -1, 0, 0, le_ b n (sk b n p), k, 11 :: O, E, S, M) := Q_st ((if_pos h).trans (if_neg hd))
theorem q4bf (h : ¬ tw b n (sk b n p) = 15) (h2 : tc b n (sk b n p) = 91) (hd : dpo O = 10) : Q b n (4, lo, ti, cx, sg, p, k, O, E, S, M) (sX (1 + 8 * sk b n p + 2)) := Q_st ((if_neg h).trans ((if_pos h2).trans (if_pos hd)))
theorem q4b (h : ¬ tw b n (sk b n p) = 15) (h2 : tc b n (sk b n p) = 91) (hd : ¬ dpo O = 10) : Q b n (4, lo, ti, cx, sg, p, k, O, E, S, M) (4, -1, -1, 0, 0, sk b n p + 1, k, 91 :: O, E, S, M) := Q_st ((if_neg h).trans ((if_pos h2).trans (if_neg hd)))
theorem q4c (h : ¬ tw b n (sk b n p) = 15) (h2 : ¬ tc b n (sk b n p) = 91) : Q b n (4, lo, ti, cx, sg, p, k, O, E, S, M) (0, -1, -1, 1, 0, p, k, O, E, S, M) := Q_st ((if_neg h).trans (if_neg h2))
theorem q5p {x : Int} (h : x = 11 ∨ x = 12) : Q b n (5, lo, ti, cx, sg, p, k, x :: O, E, S, M) (5, -1, -1, 0, 0, p, k, O, E ++ [x], S, M) := Q_st (if_pos h)
theorem q5a (h : ¬ (O.headD 0 = 11 ∨ O.headD 0 = 12)) (h2 : tw b n (sk b n p) = 16) : Q b n (5, lo, ti, cx, sg, p, k, O, E, S, M) (4, -1, -1, 0, 0, le_ b n (sk b n p), k, 12 :: O, E, S, M) := Q_st ((if_neg h).trans (if_pos h2))
theorem q5o (h : ¬ (O.headD 0 = 11 ∨ O.headD 0 = 12)) (h2 : tw b n (sk b n p) = 17) (h3 : ¬ O.headD 0 = 13) : Q b n (5, lo, ti, cx, sg, p, k, O, E, S, M) (4, -1, -1, 0, 0, le_ b n (sk b n p), k, 13 :: O, E, S, M) := Q_st ((if_neg h).trans ((if_neg (by omega)).trans ((if_pos h2).trans (if_neg h3))))
theorem h13 : ¬ ((13 : Int) = 11 ∨ (13 : Int) = 12) := by omega
theorem q5oo (h2 : tw b n (sk b n p) = 17) : Q b n (5, lo, ti, cx, sg, p, k, 13 :: O, E, S, M) (4, -1, -1, 0, 0, le_ b n (sk b n p), k, 13 :: O, E ++ [13], S, M) := Q_st (by
  simp only [sstp]
  rw [if_neg (show ¬ ((13 :: O).headD 0 = 11 ∨ (13 :: O).headD 0 = 12) from h13), if_neg (by omega), if_pos h2, if_pos (show (13 :: O).headD 0 = 13 from rfl)])
theorem q5eo (h2 : ¬ tw b n (sk b n p) = 16) (h3 : ¬ tw b n (sk b n p) = 17) : Q b n (5, lo, ti, cx, sg, p, k, 13 :: O, E, S, M) (7, -1, -1, 0, 0, sk b n p, k, O, E ++ [13], S, M) := Q_st (by
  simp only [sstp]
  rw [if_neg (show ¬ ((13 :: O).headD 0 = 11 ∨ (13 :: O).headD 0 = 12) from h13), if_neg h2, if_neg h3, if_pos (show (13 :: O).headD 0 = 13 from rfl)]
  rfl)
theorem q5e (h : ¬ (O.headD 0 = 11 ∨ O.headD 0 = 12)) (h2 : ¬ tw b n (sk b n p) = 16) (h3 : ¬ tw b n (sk b n p) = 17) (h4 : ¬ O.headD 0 = 13) : Q b n (5, lo, ti, cx, sg, p, k, O, E, S, M) (7, -1, -1, 0, 0, sk b n p, k, O, E, S, M) := Q_st ((if_neg h).trans ((if_neg h2).trans ((if_neg h3).trans (if_neg h4))))
theorem q7d : Q b n (7, lo, ti, cx, sg, p, k, [], E, S, M) (6, -1, -1, 0, 0, p, k, [], [], [], M ++ [(S, E)]) := Q_st rfl
theorem q7b {x : Int} (h : tc b n p = 93) : Q b n (7, lo, ti, cx, sg, p, k, x :: O, E, S, M) (5, -1, -1, 0, 0, p + 1, k, O, E, S, M) := Q_st (if_pos h)
theorem q7f {x : Int} (h : ¬ tc b n p = 93) : Q b n (7, lo, ti, cx, sg, p, k, x :: O, E, S, M) (sX (1 + 8 * p + 0)) := Q_st (if_neg h)
theorem q6s (h : tc b n (sk b n p) = 59) : Q b n (6, lo, ti, cx, sg, p, k, O, E, S, M) (8, -1, -1, 0, 0, sk b n p + 1, k, [], [], [], M) := Q_st (if_pos h)
theorem q6d (h : tc b n (sk b n p) = -1) : Q b n (6, lo, ti, cx, sg, p, k, O, E, S, M) (sY M) := Q_st ((if_neg (by omega)).trans (if_pos h))
theorem q6f (h : ¬ tc b n (sk b n p) = 59) (h2 : ¬ tc b n (sk b n p) = -1) : Q b n (6, lo, ti, cx, sg, p, k, O, E, S, M) (sX (1 + 8 * sk b n p + 0)) := Q_st ((if_neg h).trans (if_neg h2))
theorem q8f (h : ¬ tw b n (sk b n p) = 13) : Q b n (8, lo, ti, cx, sg, p, k, O, E, S, M) (sX (1 + 8 * sk b n p + 0)) := Q_st (if_pos h)
theorem q8m (h : tw b n (sk b n p) = 13) (h2 : M.length = 12) : Q b n (8, lo, ti, cx, sg, p, k, O, E, S, M) (sX (1 + 8 * sk b n p + 4)) := Q_st ((if_neg (fun r => r h)).trans (if_pos h2))
theorem q8 (h : tw b n (sk b n p) = 13) (h2 : ¬ M.length = 12) : Q b n (8, lo, ti, cx, sg, p, k, O, E, S, M) (0, -1, -1, 0, 0, le_ b n (sk b n p), k, [], [], [], M) := Q_st ((if_neg (fun r => r h)).trans (if_neg h2))
theorem opl_1 : opl (-1) = [] := rfl
theorem q1r {o : Int} : Q b n (1, lo, o, cx, sg, p, k, O, E, S, M) (1, lo, -1, cx, sg, p, k, O, E ++ opl o, S, M) := by
  refine Q.tr (Q_step _) (Q.sy (Q_st ?_))
  show sstp b n (1, lo, -1, cx, sg, p, k, O, E ++ opl o, S, M) = sstp b n (1, lo, o, cx, sg, p, k, O, E, S, M)
  show (if _ then _ else _) = (if _ then _ else _)
  rw [opl_1, List.append_nil]
theorem q2r {o ti2 : Int} : Q b n (2, o, ti, cx, sg, p, k, O, E, S, M) (2, -1, ti2, cx, sg, p, k, O, E ++ opl o, S, M) := by
  refine Q.tr (Q_step _) (Q.sy (Q_st ?_))
  show (if _ then _ else _) = (if _ then _ else _)
  rw [opl_1, List.append_nil]
/-- blanks ahead say nothing -/
theorem q0s (h : p ≤ n) : Q b n (0, lo, ti, cx, sg, p, k, O, E, S, M) (0, lo, ti, cx, sg, sk b n p, k, O, E, S, M) := by
  refine Q.tr (Q_step _) (Q.sy (Q_st ?_))
  show (if _ then _ else _) = (if _ then _ else _)
  rw [sk_sk h]
theorem q4s (h : p ≤ n) : Q b n (4, lo, ti, cx, sg, p, k, O, E, S, M) (4, lo, ti, cx, sg, sk b n p, k, O, E, S, M) := by
  refine Q.tr (Q_step _) (Q.sy ?_)
  refine Q.tr (Q_step _) ?_
  show Q b n (if _ then _ else if _ then _ else _) (if _ then _ else if _ then _ else _)
  rw [sk_sk h]
  by_cases c1 : tw b n (sk b n p) = 15
  · rw [if_pos c1, if_pos c1]; exact Q.rfl_
  · rw [if_neg c1, if_neg c1]
    by_cases c2 : tc b n (sk b n p) = 91
    · rw [if_pos c2, if_pos c2]; exact Q.rfl_
    · rw [if_neg c2, if_neg c2]; exact (q0s h).sy
theorem q5s (h : p ≤ n) : Q b n (5, lo, ti, cx, sg, p, k, [], E, S, M) (5, lo, ti, cx, sg, sk b n p, k, [], E, S, M) := by
  refine Q.tr (Q_step _) (Q.sy (Q_st ?_))
  show (if _ then _ else _) = (if _ then _ else _)
  rw [sk_sk h]
theorem q6k (h : p ≤ n) : Q b n (6, lo, ti, cx, sg, p, k, O, E, S, M) (6, lo, ti, cx, sg, sk b n p, k, O, E, S, M) := by
  refine Q.tr (Q_step _) (Q.sy (Q_st ?_))
  show (if _ then _ else _) = (if _ then _ else _)
  rw [sk_sk h]
theorem q8s (h : p ≤ n) : Q b n (8, lo, ti, cx, sg, p, k, O, E, S, M) (8, lo, ti, cx, sg, sk b n p, k, O, E, S, M) := by
  refine Q.tr (Q_step _) (Q.sy (Q_st ?_))
  show (if _ then _ else _) = (if _ then _ else _)
  rw [sk_sk h]
end
/-- what a reading of a piece of a rule leaves alone: T the object, g the signs, l the lengths -/
def RFr (T T2 g g2 l l2 : Int → Int) : Prop := (∀ j, ¬ (j = 8 ∨ j = 9 ∨ j = 10 ∨ j = 12 ∨ j = 13 ∨ j = 16) → T2 j = T j) ∧ (∀ j, j < 400 * T 11 ∨ 400 * T 11 + 400 ≤ j → g2 j = g j) ∧ (∀ j, ¬ j = T 11 → l2 j = l j)
theorem RFr.rf {T g l : Int → Int} : RFr T T g g l l := ⟨fun _ _ => rfl, fun _ _ => rfl, fun _ _ => rfl⟩
theorem RFr.tr {T T2 T3 g g2 g3 l l2 l3 : Int → Int} (h : RFr T T2 g g2 l l2) (h2 : RFr T2 T3 g2 g3 l2 l3) : RFr T T3 g g3 l l3 := by
  have e := h.1 11 (by omega)
  refine ⟨fun j hj => (h2.1 j hj).trans (h.1 j hj), fun j hj => (h2.2.1 j (by rw [e]; exact hj)).trans (h.2.1 j hj), fun j hj => (h2.2.2 j (by rw [e]; exact hj)).trans (h.2.2 j hj)⟩
/-- a piece of a rule may be read here -/
def RK (b T l : Int → Int) : Prop := TPO b (T 1) ∧ (0 ≤ T 8 ∧ T 8 ≤ T 1) ∧ T 9 = 0 ∧ (0 ≤ T 12 ∧ T 12 ≤ 60) ∧ (0 ≤ T 11 ∧ T 11 < 6) ∧ (0 ≤ l (T 11) ∧ l (T 11) ≤ T 8) ∧ (0 ≤ (0 : Int) ∧ l (T 11) + 0 ≤ T 8)
