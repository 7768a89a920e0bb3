theorem xshr_nn (x : Nat) (j : Nat) (hx : x < 2147483648) (hj : j = 4 ∨ j = 5) : xshr (x : Int) (j : Int) = ((x / 2 ^ j : Nat) : Int) := by
  unfold xshr
  have e1 : ((Int32.ofInt (x : Int)) >>> (Int32.ofInt (j : Int) &&& 31)).toInt = ((Int32.ofInt (x : Int)).toBitVec.sshiftRight j).toInt := by
    show ((Int32.ofInt (x : Int)) >>> (Int32.ofInt (j : Int) &&& 31)).toBitVec.toInt = _
    rw [Int32.toBitVec_shiftRight]
    rcases hj with rfl | rfl <;> rfl
  rw [e1, BitVec.toInt_sshiftRight]
  show (BitVec.ofInt 32 (x : Int)).toInt >>> j = _
  rw [BitVec.toInt_ofInt, Int.bmod_eq_of_le (by omega) (by omega), Int.shiftRight_eq_div_pow]
  omega
theorem xshl_nn (x : Nat) (hx : x < 33554432) : xshl (x : Int) 5 = ((32 * x : Nat) : Int) := by
  unfold xshl
  have e1 : ((Int32.ofInt (x : Int)) <<< (Int32.ofInt 5 &&& 31)).toInt = ((Int32.ofInt (x : Int)).toBitVec <<< 5).toInt := by
    show ((Int32.ofInt (x : Int)) <<< (Int32.ofInt 5 &&& 31)).toBitVec.toInt = _
    rw [Int32.toBitVec_shiftLeft]
    rfl
  rw [e1]
  have e2 : ((Int32.ofInt (x : Int)).toBitVec <<< 5).toNat = 32 * x := by
    rw [BitVec.toNat_shiftLeft]
    show ((BitVec.ofInt 32 (x : Int)).toNat <<< 5) % 2 ^ 32 = _
    rw [BitVec.ofInt_natCast, BitVec.toNat_ofNat, Nat.mod_eq_of_lt (by omega), Nat.shiftLeft_eq, Nat.mod_eq_of_lt (by omega)]
    omega
  rw [BitVec.toInt_eq_toNat_of_lt (by omega), e2]
theorem enc16 {v c : Int} (h0 : 0 ≤ v) (h1 : v ≤ 99999) (c0 : 0 ≤ c) (c1 : c ≤ 1) : xand (c + 16 * v) 15 = c ∧ xshr (c + 16 * v) 4 = v := by
  obtain ⟨n, rfl⟩ : ∃ n : Nat, v = (n : Int) := ⟨v.toNat, by omega⟩
  obtain ⟨m, rfl⟩ : ∃ m : Nat, c = (m : Int) := ⟨c.toNat, by omega⟩
  rw [show (m : Int) + 16 * (n : Int) = ((m + 16 * n : Nat) : Int) by omega]
  refine ⟨?_, ?_⟩
  · have := xand_nn (m + 16 * n) 15 (by omega) (by omega)
    rw [show ((15 : Nat) : Int) = 15 from rfl] at this
    rw [this, show (15 : Nat) = 2 ^ 4 - 1 from rfl, Nat.and_two_pow_sub_one_eq_mod]
    omega
  · have := xshr_nn (m + 16 * n) 4 (by omega) (Or.inl rfl)
    rw [show ((4 : Nat) : Int) = 4 from rfl] at this
    rw [this]
    omega
theorem enc32 {v c : Int} (h0 : 0 ≤ v) (h1 : v ≤ 99999) (c0 : 0 ≤ c) (c1 : c ≤ 1) : xand (c + 32 * v) 31 = c ∧ xshr (c + 32 * v) 5 = v ∧ xior (xshl v 5) c = c + 32 * v := by
  obtain ⟨n, rfl⟩ : ∃ n : Nat, v = (n : Int) := ⟨v.toNat, by omega⟩
  obtain ⟨m, rfl⟩ : ∃ m : Nat, c = (m : Int) := ⟨c.toNat, by omega⟩
  rw [show (m : Int) + 32 * (n : Int) = ((m + 32 * n : Nat) : Int) by omega]
  refine ⟨?_, ?_, ?_⟩
  · have := xand_nn (m + 32 * n) 31 (by omega) (by omega)
    rw [show ((31 : Nat) : Int) = 31 from rfl] at this
    rw [this, show (31 : Nat) = 2 ^ 5 - 1 from rfl, Nat.and_two_pow_sub_one_eq_mod]
    omega
  · have := xshr_nn (m + 32 * n) 5 (by omega) (Or.inr rfl)
    rw [show ((5 : Nat) : Int) = 5 from rfl] at this
    rw [this]
    omega
  · rw [xshl_nn n (by omega), xior_n (32 * n) m (by omega) (by omega)]
    have := Nat.two_pow_add_eq_or_of_lt (i := 5) (b := m) (by omega) n
    rw [show (2 : Nat) ^ 5 * n = 32 * n from rfl] at this
    rw [← this]
    omega
/-- a value's code, by the class -/
def vcc (b : Int → Int) (n q : Int) : Int := if dgt b n q = true then 0 + 32 * tnv b n q else 1 + 32 * tw b n q
theorem vfl_v {b : Int → Int} {n q k : Int} (h : vfl b n q k = 0) (q0 : 0 ≤ q) : (dgt b n q = true ∧ 0 ≤ tnv b n q ∧ tnv b n q ≤ 99999) ∨ (¬ dgt b n q = true ∧ 0 ≤ tw b n q ∧ tw b n q < 12) := by
  have hde := de_all (b := b) (n := n) (p := q)
  have hvr := dvk_rg5 (b := b) (n := n) (q := q) (k := (de_ b n q - q).toNat) (fun j j0 j1 => hde.2.1 j j0 (by omega))
  have htn : -1 ≤ tnv b n q ∧ tnv b n q ≤ 99999 := by unfold tnv; split <;> omega
  unfold vfl at h
  by_cases d : dgt b n q = true
  · rw [if_pos d] at h
    by_cases t : tnv b n q < 0
    · rw [if_pos t] at h; omega
    · exact Or.inl ⟨d, by omega, htn.2⟩
  · rw [if_neg d] at h
    by_cases t : 0 ≤ tw b n q ∧ tw b n q < 12
    · exact Or.inr ⟨d, t⟩
    · rw [if_neg t] at h; omega
theorem vcd_st {b : Int → Int} {n q k : Int} (h : vfl b n q k = 0) (q0 : 0 ≤ q) (w : Int → Int64) : ∃ v, ∀ s : List Int64, pstp (vcd b n q) w s = if s.length < 60 then some (v :: s) else none := by
  rcases vfl_v h q0 with ⟨d, t0, t1⟩ | ⟨d, t0, t1⟩
  · have e := enc16 (c := 0) t0 t1 (by omega) (by omega)
    refine ⟨Int64.ofInt (tnv b n q), fun s => ?_⟩
    unfold vcd pstp
    rw [if_pos d, if_pos e.1, e.2]
  · have e := enc16 (c := 1) t0 (by omega) (by omega) (by omega)
    refine ⟨w (tw b n q), fun s => ?_⟩
    unfold vcd pstp
    rw [if_neg d, if_neg (by rw [e.1]; decide), if_pos e.1, e.2]
    by_cases c : s.length < 60
    · rw [if_pos ⟨c, t0, t1⟩, if_pos c]
    · rw [if_neg (fun r => c r.1), if_neg c]
theorem CR.val {b : Int → Int} {n q k : Int} (h : vfl b n q k = 0) (q0 : 0 ≤ q) : CR [vcd b n q] [vcc b n q] := by
  refine CR.one (fun w s => ?_)
  rcases vfl_v h q0 with ⟨d, t0, t1⟩ | ⟨d, t0, t1⟩
  · have e := enc16 (c := 0) t0 t1 (by omega) (by omega)
    have f := enc32 (c := 0) t0 t1 (by omega) (by omega)
    unfold vcd vcc pstp cstp
    rw [if_pos d, if_pos d, if_pos e.1, e.2, if_pos f.1, f.2.1]
  · have e := enc16 (c := 1) t0 (by omega) (by omega) (by omega)
    have f := enc32 (c := 1) t0 (by omega) (by omega) (by omega)
    unfold vcd vcc pstp cstp
    rw [if_neg d, if_neg d, if_neg (show ¬ xand (1 + 16 * tw b n q) 15 = 0 by rw [e.1]; decide), if_pos e.1, e.2, if_neg (show ¬ xand (1 + 32 * tw b n q) 31 = 0 by rw [f.1]; decide), if_pos f.1, f.2.1]
def opm (o : Int) : Int := if o = 14 then 6 else if o = 6 then 7 else if o = 7 then 8 else if o = 8 then 9 else if o = 9 then 10 else if o = 10 then 11 else if o = 11 then 14 else o
theorem cr_2 : CR [2] [2] := by
  refine CR.one (fun w s => ?_)
  have e1 : xand 2 15 = 2 := by decide
  have e2 : xand 2 31 = 2 := by decide
  unfold pstp cstp pjoin
  rw [e1, e2, show cmap 2 = 2 by decide]
  rfl
theorem pst_2 {w : Int → Int64} {y z : Int64} {r : List Int64} : pstp 2 w (y :: z :: r) = some (pone 2 z y :: r) := by
  have e1 : xand 2 15 = 2 := by decide
  unfold pstp
  rw [e1]
  rfl
theorem cr_3 : CR [3] [3] := by
  refine CR.one (fun w s => ?_)
  have e1 : xand 3 15 = 3 := by decide
  have e2 : xand 3 31 = 3 := by decide
  unfold pstp cstp pjoin
  rw [e1, e2, show cmap 3 = 3 by decide]
  rfl
theorem pst_3 {w : Int → Int64} {y z : Int64} {r : List Int64} : pstp 3 w (y :: z :: r) = some (pone 3 z y :: r) := by
  have e1 : xand 3 15 = 3 := by decide
  unfold pstp
  rw [e1]
  rfl
theorem cr_4 : CR [4] [4] := by
  refine CR.one (fun w s => ?_)
  have e1 : xand 4 15 = 4 := by decide
  have e2 : xand 4 31 = 4 := by decide
  unfold pstp cstp pjoin
  rw [e1, e2, show cmap 4 = 4 by decide]
  rfl
theorem pst_4 {w : Int → Int64} {y z : Int64} {r : List Int64} : pstp 4 w (y :: z :: r) = some (pone 4 z y :: r) := by
  have e1 : xand 4 15 = 4 := by decide
  unfold pstp
  rw [e1]
  rfl
theorem cr_5 : CR [5] [5] := by
  refine CR.one (fun w s => ?_)
  have e1 : xand 5 15 = 5 := by decide
  have e2 : xand 5 31 = 5 := by decide
  unfold pstp cstp pjoin
  rw [e1, e2, show cmap 5 = 5 by decide]
  rfl
theorem pst_5 {w : Int → Int64} {y z : Int64} {r : List Int64} : pstp 5 w (y :: z :: r) = some (pone 5 z y :: r) := by
  have e1 : xand 5 15 = 5 := by decide
  unfold pstp
  rw [e1]
  rfl
theorem cr_14 : CR [14] [6] := by
  refine CR.one (fun w s => ?_)
  have e1 : xand 14 15 = 14 := by decide
  have e2 : xand 6 31 = 6 := by decide
  unfold pstp cstp pjoin
  rw [e1, e2, show cmap 6 = 14 by decide]
  rfl
theorem pst_14 {w : Int → Int64} {y z : Int64} {r : List Int64} : pstp 14 w (y :: z :: r) = some (pone 14 z y :: r) := by
  have e1 : xand 14 15 = 14 := by decide
  unfold pstp
  rw [e1]
  rfl
theorem cr_6 : CR [6] [7] := by
  refine CR.one (fun w s => ?_)
  have e1 : xand 6 15 = 6 := by decide
  have e2 : xand 7 31 = 7 := by decide
  unfold pstp cstp pjoin
  rw [e1, e2, show cmap 7 = 6 by decide]
  rfl
theorem pst_6 {w : Int → Int64} {y z : Int64} {r : List Int64} : pstp 6 w (y :: z :: r) = some (pone 6 z y :: r) := by
  have e1 : xand 6 15 = 6 := by decide
  unfold pstp
  rw [e1]
  rfl
theorem cr_7 : CR [7] [8] := by
  refine CR.one (fun w s => ?_)
  have e1 : xand 7 15 = 7 := by decide
  have e2 : xand 8 31 = 8 := by decide
  unfold pstp cstp pjoin
  rw [e1, e2, show cmap 8 = 7 by decide]
  rfl
theorem pst_7 {w : Int → Int64} {y z : Int64} {r : List Int64} : pstp 7 w (y :: z :: r) = some (pone 7 z y :: r) := by
  have e1 : xand 7 15 = 7 := by decide
  unfold pstp
  rw [e1]
  rfl
theorem cr_8 : CR [8] [9] := by
  refine CR.one (fun w s => ?_)
  have e1 : xand 8 15 = 8 := by decide
  have e2 : xand 9 31 = 9 := by decide
  unfold pstp cstp pjoin
  rw [e1, e2, show cmap 9 = 8 by decide]
  rfl
theorem pst_8 {w : Int → Int64} {y z : Int64} {r : List Int64} : pstp 8 w (y :: z :: r) = some (pone 8 z y :: r) := by
  have e1 : xand 8 15 = 8 := by decide
  unfold pstp
  rw [e1]
  rfl
theorem cr_9 : CR [9] [10] := by
  refine CR.one (fun w s => ?_)
  have e1 : xand 9 15 = 9 := by decide
  have e2 : xand 10 31 = 10 := by decide
  unfold pstp cstp pjoin
  rw [e1, e2, show cmap 10 = 9 by decide]
  rfl
theorem pst_9 {w : Int → Int64} {y z : Int64} {r : List Int64} : pstp 9 w (y :: z :: r) = some (pone 9 z y :: r) := by
  have e1 : xand 9 15 = 9 := by decide
  unfold pstp
  rw [e1]
  rfl
theorem cr_10 : CR [10] [11] := by
  refine CR.one (fun w s => ?_)
  have e1 : xand 10 15 = 10 := by decide
  have e2 : xand 11 31 = 11 := by decide
  unfold pstp cstp pjoin
  rw [e1, e2, show cmap 11 = 10 by decide]
  rfl
theorem pst_10 {w : Int → Int64} {y z : Int64} {r : List Int64} : pstp 10 w (y :: z :: r) = some (pone 10 z y :: r) := by
  have e1 : xand 10 15 = 10 := by decide
  unfold pstp
  rw [e1]
  rfl
theorem cr_12 : CR [12] [12] := by
  refine CR.one (fun w s => ?_)
  have e1 : xand 12 15 = 12 := by decide
  have e2 : xand 12 31 = 12 := by decide
  unfold pstp cstp pjoin
  rw [e1, e2, show cmap 12 = 12 by decide]
  rfl
theorem pst_12 {w : Int → Int64} {y z : Int64} {r : List Int64} : pstp 12 w (y :: z :: r) = some (pone 12 z y :: r) := by
  have e1 : xand 12 15 = 12 := by decide
  unfold pstp
  rw [e1]
  rfl
theorem cr_13 : CR [13] [13] := by
  refine CR.one (fun w s => ?_)
  have e1 : xand 13 15 = 13 := by decide
  have e2 : xand 13 31 = 13 := by decide
  unfold pstp cstp pjoin
  rw [e1, e2, show cmap 13 = 13 by decide]
  rfl
theorem pst_13 {w : Int → Int64} {y z : Int64} {r : List Int64} : pstp 13 w (y :: z :: r) = some (pone 13 z y :: r) := by
  have e1 : xand 13 15 = 13 := by decide
  unfold pstp
  rw [e1]
  rfl
theorem cr_11 : CR [11] [14] := by
  refine CR.one (fun w s => ?_)
  have e1 : xand 11 15 = 11 := by decide
  have e2 : xand 14 31 = 14 := by decide
  unfold pstp cstp
  rw [e1, e2]
  rfl
/-! a stack of numbers upon truths -/
def B01 (l : List Int64) : Prop := ∀ v ∈ l, v = 0 ∨ v = 1
def WST (w : Int → Int64) (E : List Int) (nv nb : Nat) (k : Int) : Prop := ∃ vs bs : List Int64, rlx w E [] = some (vs ++ bs) ∧ vs.length = nv ∧ bs.length = nb ∧ B01 bs ∧ ((nv + nb : Nat) : Int) ≤ k
def tv (x : Int) : Nat := if x = -1 then 0 else 1
section
variable {w : Int → Int64} {E : List Int} {nv nb : Nat} {k : Int}
theorem rlx_1 {x : Int} {s s2 : List Int64} (h : rlx w E [] = some s) (h2 : pstp x w s = some s2) : rlx w (E ++ [x]) [] = some s2 := by
  rw [rlx_app E [x] [] s h]
  show (match pstp x w s with | some s2 => some s2 | none => none) = _
  rw [h2]
theorem WST.push {x : Int} (h : WST w E nv nb k) (hx : ∃ v, ∀ s : List Int64, pstp x w s = if s.length < 60 then some (v :: s) else none) (hk : k < 60) : WST w (E ++ [x]) (nv + 1) nb (k + 1) := by
  obtain ⟨vs, bs, h1, h2, h3, h4, h5⟩ := h
  obtain ⟨v, hv⟩ := hx
  refine ⟨v :: vs, bs, rlx_1 h1 ?_, by rw [List.length_cons, h2], h3, h4, by omega⟩
  rw [hv, if_pos (by rw [List.length_append]; omega)]
  rfl
theorem WST.op {x : Int} (h : WST w E (nv + 2) nb k) (hx : ∀ (y z : Int64) (r : List Int64), pstp x w (y :: z :: r) = some (pone x z y :: r)) : WST w (E ++ [x]) (nv + 1) nb k := by
  obtain ⟨vs, bs, h1, h2, h3, h4, h5⟩ := h
  match vs, h2 with
  | y :: z :: r, h2 =>
    have h2' : r.length + 1 + 1 = nv + 2 := h2
    exact ⟨pone x z y :: r, bs, rlx_1 h1 (hx _ _ _), by show r.length + 1 = nv + 1; omega, h3, h4, by omega⟩
theorem pst_op {x : Int} (hx : x = 2 ∨ x = 3 ∨ x = 4 ∨ x = 5 ∨ x = 14) (y z : Int64) (r : List Int64) : pstp x w (y :: z :: r) = some (pone x z y :: r) := by
  rcases hx with rfl | rfl | rfl | rfl | rfl
  · exact pst_2
  · exact pst_3
  · exact pst_4
  · exact pst_5
  · exact pst_14
theorem WST.oplx {o : Int} (h : WST w E (nv + 1 + tv o) nb k) (ho : o = -1 ∨ o = 2 ∨ o = 3 ∨ o = 4 ∨ o = 5 ∨ o = 14) : WST w (E ++ opl o) (nv + 1) nb k := by
  by_cases c : o = -1
  · subst c
    show WST w (E ++ []) (nv + 1) nb k
    rw [List.append_nil]
    exact h
  · have e : opl o = [o] := if_neg c
    have e2 : tv o = 1 := if_neg c
    rw [e2] at h
    rw [e]
    exact WST.op h (pst_op (by omega))
theorem WST.cmp {x : Int} (h : WST w E 2 nb k) (hx : 6 ≤ x ∧ x ≤ 10) : WST w (E ++ [x]) 0 (nb + 1) k := by
  obtain ⟨vs, bs, h1, h2, h3, h4, h5⟩ := h
  match vs, h2 with
  | [y, z], _ =>
    have hp : pstp x w ([y, z] ++ bs) = some (pone x z y :: bs) ∧ (pone x z y = 0 ∨ pone x z y = 1) := by
      have : x = 6 ∨ x = 7 ∨ x = 8 ∨ x = 9 ∨ x = 10 := by omega
      rcases this with rfl | rfl | rfl | rfl | rfl
      · exact ⟨pst_6, by show (if z < y then (1 : Int64) else 0) = 0 ∨ (if z < y then (1 : Int64) else 0) = 1; split <;> simp⟩
      · exact ⟨pst_7, by show (if z ≤ y then (1 : Int64) else 0) = 0 ∨ (if z ≤ y then (1 : Int64) else 0) = 1; split <;> simp⟩
      · exact ⟨pst_8, by show (if z = y then (1 : Int64) else 0) = 0 ∨ (if z = y then (1 : Int64) else 0) = 1; split <;> simp⟩
      · exact ⟨pst_9, by show (if y ≤ z then (1 : Int64) else 0) = 0 ∨ (if y ≤ z then (1 : Int64) else 0) = 1; split <;> simp⟩
      · exact ⟨pst_10, by show (if y < z then (1 : Int64) else 0) = 0 ∨ (if y < z then (1 : Int64) else 0) = 1; split <;> simp⟩
    refine ⟨[], pone x z y :: bs, rlx_1 h1 hp.1, rfl, by rw [List.length_cons, h3], fun v hv => ?_, by omega⟩
    rcases List.mem_cons.mp hv with rfl | hv
    · exact hp.2
    · exact h4 v hv
theorem WST.nt (h : WST w E 0 (nb + 1) k) : WST w (E ++ [11]) 0 (nb + 1) k := by
  obtain ⟨vs, bs, h1, h2, h3, h4, h5⟩ := h
  match vs, h2 with
  | [], _ =>
    match bs, h3, h4, h1 with
    | v :: r, h3, h4, h1 =>
      refine ⟨[], (1 - v) :: r, rlx_1 h1 rfl, rfl, h3, fun u hu => ?_, h5⟩
      rcases List.mem_cons.mp hu with rfl | hu
      · rcases h4 v List.mem_cons_self with rfl | rfl
        · exact Or.inr rfl
        · exact Or.inl rfl
      · exact h4 u (List.mem_cons_of_mem _ hu)
theorem WST.bin {x : Int} (h : WST w E 0 (nb + 2) k) (hx : x = 12 ∨ x = 13) : WST w (E ++ [x]) 0 (nb + 1) k := by
  obtain ⟨vs, bs, h1, h2, h3, h4, h5⟩ := h
  match vs, h2 with
  | [], _ =>
    match bs, h3, h4, h1 with
    | y :: z :: r, h3, h4, h1 =>
      have h3' : r.length + 1 + 1 = nb + 2 := h3
      have hy := h4 y List.mem_cons_self
      have hz := h4 z (List.mem_cons_of_mem _ List.mem_cons_self)
      have hp : pstp x w (y :: z :: r) = some (pone x z y :: r) ∧ (pone x z y = 0 ∨ pone x z y = 1) := by
        rcases hx with rfl | rfl
        · refine ⟨pst_12, ?_⟩
          show z &&& y = 0 ∨ z &&& y = 1
          rcases hy with rfl | rfl <;> rcases hz with rfl | rfl <;> decide
        · refine ⟨pst_13, ?_⟩
          show z ||| y = 0 ∨ z ||| y = 1
          rcases hy with rfl | rfl <;> rcases hz with rfl | rfl <;> decide
      refine ⟨[], pone x z y :: r, rlx_1 h1 hp.1, rfl, by show r.length + 1 = nb + 1; omega, fun u hu => ?_, by omega⟩
      rcases List.mem_cons.mp hu with rfl | hu
      · exact hp.2
      · exact h4 u (List.mem_cons_of_mem _ (List.mem_cons_of_mem _ hu))
theorem WST.mono {k2 : Int} (h : WST w E nv nb k) (hk : k ≤ k2) : WST w E nv nb k2 := by
  obtain ⟨vs, bs, h1, h2, h3, h4, h5⟩ := h
  exact ⟨vs, bs, h1, h2, h3, h4, by omega⟩
end
