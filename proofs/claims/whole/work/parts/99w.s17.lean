/-- a piece of a rule may be read here, by the class -/
def CK (b Pc Pl Nm X U : Int → Int) : Prop := TXT X b Pc Pl Nm ∧ X 10 = 0 ∧ (0 ≤ U 4 ∧ U 4 ≤ 60) ∧ (0 ≤ U 3 ∧ U 3 ≤ X 9)
def CPG (b Pc Pl Nm X X1 U U1 C C1 : Int → Int) (c : List Int) : Prop := CK b Pc Pl Nm X1 U1 ∧ X1 6 = X 6 ∧ X 9 ≤ X1 9 ∧ U 4 ≤ U1 4 ∧ (c.length : Int) ≤ X1 9 - X 9 ∧ C1 = wrl C (U 3) c ∧ U1 3 = U 3 + (c.length : Int)
section
variable {b Pc Pl Nm X X1 X2 X3 U U1 U2 C C1 C2 : Int → Int} {c c1 c2 e e1 e2 : List Int} {lo ti i0 : Int}
theorem CPG.rf (h : CK b Pc Pl Nm X U) : CPG b Pc Pl Nm X X U U C C [] := ⟨h, rfl, Int.le_refl _, Int.le_refl _, by show ((0 : Nat) : Int) ≤ _; omega, rfl, by show U 3 = U 3 + ((0 : Nat) : Int); omega⟩
theorem CPG.tr (h : CPG b Pc Pl Nm X X1 U U1 C C1 c) (h2 : CPG b Pc Pl Nm X1 X2 U1 U2 C1 C2 c2) : CPG b Pc Pl Nm X X2 U U2 C C2 (c ++ c2) := by
  obtain ⟨a1, a2, a3, a4, a5, a6, a7⟩ := h
  obtain ⟨d1, d2, d3, d4, d5, d6, d7⟩ := h2
  refine ⟨d1, d2.trans a2, by omega, by omega, by rw [List.length_append]; omega, ?_, by rw [List.length_append]; omega⟩
  rw [wrl_app, ← a6, d6, a7]
theorem CK.hd (h : CK b Pc Pl Nm X U) : TPO b (X 6) ∧ (0 ≤ X 9 ∧ X 9 ≤ X 6) ∧ sk b (X 6) (X 9) = X 9 ∧ X 7 = tkk b (X 6) (X 9) := ⟨h.1.1, h.1.nx.1, h.1.sk_, h.1.2.2.2.2.1⟩
/-- a sum was read by the class -/
def SMC (b Pc Pl Nm X X2 U U2 C C2 : Int → Int) (c e : List Int) : Prop := X2 6 = X 6 ∧ (0 ≤ X2 10 ∧ X2 10 ≤ 10000) ∧ (X2 10 = 0 → CPG b Pc Pl Nm X X2 U U2 C C2 c ∧ X 9 < X2 9 ∧ CR e c ∧ ∀ cx sg O E S M, Q b (X 6) (0, -1, -1, cx, sg, X 9, U 4, O, E, S, M) (3, -1, -1, cx, sg, X2 9, U2 4, O, E ++ e, S, M)) ∧ (¬ X2 10 = 0 → ∀ cx sg O E S M, Q b (X 6) (0, -1, -1, cx, sg, X 9, U 4, O, E, S, M) (sX (X2 10)))
/-- at the head of its loop -/
def SMJ (b Pc Pl Nm X X1 U U1 C C1 : Int → Int) (lo ti i0 : Int) (c e : List Int) : Prop := CPG b Pc Pl Nm X X1 U U1 C C1 c ∧ CK b Pc Pl Nm X U ∧ (0 ≤ i0 ∧ U1 4 = U 4 + i0) ∧ (lo = -1 ∨ lo = 2 ∨ lo = 3) ∧ (ti = -1 ∨ ti = 4 ∨ ti = 5 ∨ ti = 14) ∧ (c.length : Int) + ((opl lo).length : Int) + ((opl ti).length : Int) ≤ X1 9 - X 9 ∧ CR e c ∧ ∀ cx sg O E S M, Q b (X 6) (0, -1, -1, cx, sg, X 9, U 4, O, E, S, M) (0, lo, ti, cx, sg, X1 9, U1 4, O, E ++ e, S, M)
/-- what next makes of the text -/
def NX (b Pc Pl Nm X X1 : Int → Int) : Prop := TXT X1 b Pc Pl Nm ∧ X1 9 = nxt b (X 6) (X 9) ∧ X1 7 = tkk b (X 6) (nxt b (X 6) (X 9)) ∧ X1 8 = tkv b (X 6) (nxt b (X 6) (X 9)) ∧ X1 10 = X 10 ∧ X1 6 = X 6
theorem SMJ.st (h : CK b Pc Pl Nm X U) : SMJ b Pc Pl Nm X X U U C C (-1) (-1) 0 [] [] := ⟨CPG.rf h, h, ⟨by omega, by omega⟩, Or.inl rfl, Or.inl rfl, by show ((0 : Nat) : Int) + ((0 : Nat) : Int) + ((0 : Nat) : Int) ≤ _; omega, CR.nil, fun cx sg O E S M => by rw [List.append_nil]; exact Q.rfl_⟩
theorem opl_len {o : Int} (h : ¬ o = -1) : ((opl o).length : Int) = 1 := by rw [show opl o = [o] from if_neg h]; rfl
theorem opl_le {o : Int} : 0 ≤ ((opl o).length : Int) ∧ ((opl o).length : Int) ≤ 1 := by
  by_cases h : o = -1
  · subst h; exact ⟨by show (0 : Int) ≤ ((0 : Nat) : Int); omega, by show ((0 : Nat) : Int) ≤ 1; omega⟩
  · rw [opl_len h]; omega
theorem orc_o {o : Int} (h : o = -1 ∨ o = 4 ∨ o = 5 ∨ o = 14) : ((opl (orc o)).length : Int) = ((opl o).length : Int) ∧ CR (opl o) (opl (orc o)) ∧ (-1 ≤ orc o ∧ orc o ≤ 6) ∧ (orc o = -1 → o = -1) := by
  rcases h with rfl | rfl | rfl | rfl
  · exact ⟨rfl, CR.nil, by decide, fun _ => rfl⟩
  · exact ⟨rfl, cr_4, by decide, fun h => absurd h (by decide)⟩
  · exact ⟨rfl, cr_5, by decide, fun h => absurd h (by decide)⟩
  · exact ⟨rfl, cr_14, by decide, fun h => absurd h (by decide)⟩
theorem lo_o {o : Int} (h : o = -1 ∨ o = 2 ∨ o = 3) : CR (opl o) (opl o) := by
  rcases h with rfl | rfl | rfl
  · exact CR.nil
  · exact cr_2
  · exact cr_3
theorem vcc_nn {n q k : Int} (h : vfl b n q k = 0) (q0 : 0 ≤ q) : (0 ≤ vcc b n q ∧ vcc b n q ≤ 4000000) ∧ opl (vcc b n q) = [vcc b n q] := by
  have h1 : 0 ≤ vcc b n q ∧ vcc b n q ≤ 4000000 := by
    unfold vcc
    rcases vfl_v h q0 with ⟨d, t0, t1⟩ | ⟨d, t0, t1⟩
    · rw [if_pos d]; omega
    · rw [if_neg d]; omega
  exact ⟨h1, if_neg (by omega)⟩
theorem SMJ.ff (h : SMJ b Pc Pl Nm X X1 U U1 C C1 lo ti i0 c e) (hv : ¬ fov b (X1 6) (X1 9) (U1 4) = -1) : SMC b Pc Pl Nm X (xup X1 10 (1 + 8 * X1 9 + fov b (X1 6) (X1 9) (U1 4))) U U1 C C1 [] [] ∧ ¬ (1 + 8 * X1 9 + fov b (X1 6) (X1 9) (U1 4) = 0) := by
  obtain ⟨h1, hk, h2, h3, h4, h5, h6, h7⟩ := h
  have hh := h1.1.hd
  have hT1 := hh.1.1
  have e6 := h1.2.1
  have hv0 : ¬ vfl b (X1 6) (X1 9) (U1 4) = 0 := fun r => hv (if_pos r)
  have hr := vfl_rg (b := b) (n := X1 6) (q := X1 9) (k := U1 4) hh.2.1.1 (by omega)
  have ee : 1 + 8 * X1 9 + fov b (X1 6) (X1 9) (U1 4) = vfl b (X1 6) (X1 9) (U1 4) := by
    unfold fov; rw [if_neg hv0]; omega
  rw [ee]
  refine ⟨⟨e6, hr, fun r => absurd r hv0, fun _ cx sg O E S M => (h7 cx sg O E S M).tr ?_⟩, hv0⟩
  have q1 := q0f (b := b) (n := X1 6) (lo := lo) (ti := ti) (cx := cx) (sg := sg) (p := X1 9) (k := U1 4) (O := O) (E := E ++ e) (S := S) (M := M) (by rw [hh.2.2.1]; exact hv0)
  rw [hh.2.2.1, e6] at q1
  show Q b (X 6) _ (sX (vfl b (X1 6) (X1 9) (U1 4)))
  rw [e6]
  exact q1
/-- behind a value and its tight order -/
theorem SMJ.v (h : SMJ b Pc Pl Nm X X1 U U1 C C1 lo ti i0 c e) (hv : vfl b (X1 6) (X1 9) (U1 4) = 0) (hn : NX b Pc Pl Nm X1 X2) : (U1 4 < 60 ∧ X1 9 < X1 6) ∧ X1 9 < X2 9 ∧ CPG b Pc Pl Nm X X2 U (xup (xup U1 3 (U1 3 + ((opl (vcc b (X1 6) (X1 9))).length : Int) + ((opl (orc ti)).length : Int))) 4 (U1 4 + 1)) C (wrl (wrl C1 (U1 3) (opl (vcc b (X1 6) (X1 9)))) (U1 3 + ((opl (vcc b (X1 6) (X1 9))).length : Int)) (opl (orc ti))) (c ++ opl (vcc b (X1 6) (X1 9)) ++ opl (orc ti)) ∧ ((c ++ opl (vcc b (X1 6) (X1 9)) ++ opl (orc ti)).length : Int) + ((opl lo).length : Int) ≤ X2 9 - X 9 ∧ CR (e ++ [vcd b (X1 6) (X1 9)] ++ opl ti) (c ++ opl (vcc b (X1 6) (X1 9)) ++ opl (orc ti)) ∧ X2 7 = tkk b (X 6) (X2 9) ∧ ∀ cx sg O E S M, Q b (X 6) (0, -1, -1, cx, sg, X 9, U 4, O, E, S, M) (1, lo, ti, cx, sg, X2 9, U1 4 + 1, O, E ++ (e ++ [vcd b (X1 6) (X1 9)]), S, M) := by
  obtain ⟨h1, hk, h2, h3, h4, h5, h6, h7⟩ := h
  have hh := h1.1.hd
  have hT1 := hh.1.1
  obtain ⟨n1, n2, n3, n4, n5, n6⟩ := hn
  have hk60 := vfl_k hv hh.2.1.1
  have hlt := vnd_in hv hh.2.1.1 hh.2.1.2
  have hnv := nxt_v hv hh.2.1.1 hh.2.1.2
  have hsn := sk_in (b := b) (n := X1 6) (p := vnd b (X1 6) (X1 9)) hlt.2
  have hvc := vcc_nn hv hh.2.1.1
  have ho := orc_o h4
  have hol := opl_le (o := lo)
  have hot := opl_le (o := ti)
  obtain ⟨⟨k1, k2, k3, k4⟩, a2, a3, a4, a5, a6, a7⟩ := h1
  rw [hnv] at n2 n3
  rw [hvc.2]
  have hlen : ((c ++ [vcc b (X1 6) (X1 9)] ++ opl (orc ti)).length : Int) = (c.length : Int) + 1 + ((opl ti).length : Int) := by
    rw [List.length_append, List.length_append, ← ho.1]
    show ((c.length + 1 + (opl (orc ti)).length : Nat) : Int) = _
    omega
  have h1l : (([vcc b (X1 6) (X1 9)] : List Int).length : Int) = 1 := rfl
  rw [h1l]
  refine ⟨⟨by omega, by omega⟩, by omega, ⟨⟨n1, n5.trans k2, ?_, ?_⟩, n6.trans a2, by omega, ?_, by rw [hlen]; omega, ?_, ?_⟩, by rw [hlen]; omega, (h6.app (CR.val hv hh.2.1.1)).app ho.2.1, by rw [n3, n2, a2], fun cx sg O E S M => (h7 cx sg O E S M).tr ?_⟩
  · show 0 ≤ U1 4 + 1 ∧ U1 4 + 1 ≤ 60; omega
  · show 0 ≤ U1 3 + 1 + ((opl (orc ti)).length : Int) ∧ U1 3 + 1 + ((opl (orc ti)).length : Int) ≤ X2 9
    have k4' := hk.2.2.2
    omega
  · show U 4 ≤ U1 4 + 1; omega
  · rw [wrl_app, wrl_app, ← a6, List.length_append, a7]
    show wrl (wrl C1 (U 3 + (c.length : Int)) [vcc b (X1 6) (X1 9)]) (U 3 + (c.length : Int) + 1) (opl (orc ti)) = wrl _ (U 3 + ((c.length + 1 : Nat) : Int)) _
    rw [show U 3 + (c.length : Int) + 1 = U 3 + ((c.length + 1 : Nat) : Int) by omega]
  · show U1 3 + 1 + ((opl (orc ti)).length : Int) = _
    rw [hlen]; omega
  · have q1 := q0 (b := b) (n := X1 6) (lo := lo) (ti := ti) (cx := cx) (sg := sg) (p := X1 9) (k := U1 4) (O := O) (E := E ++ e) (S := S) (M := M) (by rw [hh.2.2.1]; exact hv)
    rw [hh.2.2.1, a2, List.append_assoc] at q1
    rw [n2, a2]
    exact q1
theorem SMJ.a (h : SMJ b Pc Pl Nm X X1 U U1 C C1 lo ti i0 c e) (hv : vfl b (X1 6) (X1 9) (U1 4) = 0) (hn : NX b Pc Pl Nm X1 X2) (hn2 : NX b Pc Pl Nm X2 X3) (ho : opcl (opc (tc b (X 6) (X2 9))) = true) : SMJ b Pc Pl Nm X X3 U (xup (xup U1 3 (U1 3 + ((opl (vcc b (X1 6) (X1 9))).length : Int) + ((opl (orc ti)).length : Int))) 4 (U1 4 + 1)) C (wrl (wrl C1 (U1 3) (opl (vcc b (X1 6) (X1 9)))) (U1 3 + ((opl (vcc b (X1 6) (X1 9))).length : Int)) (opl (orc ti))) lo (opc (tc b (X 6) (X2 9))) (i0 + 1) (c ++ opl (vcc b (X1 6) (X1 9)) ++ opl (orc ti)) (e ++ [vcd b (X1 6) (X1 9)] ++ opl ti) := by
  obtain ⟨v1, v2, v3, v4, v5, v6, v7⟩ := h.v hv hn
  obtain ⟨-, hk, h2, h3, h4, -, -, -⟩ := h
  have hc := opcl_i.mp ho
  have hT : TPO b (X 6) := by rw [← v3.2.1]; exact v3.1.1.1
  have hT1 := hT.1
  have hb := v3.1.hd
  obtain ⟨d1, d2, d3, d4, d5, d6, d7⟩ := v3
  obtain ⟨k1, k2, k3, k4⟩ := d1
  obtain ⟨n1, n2, n3, n4, n5, n6⟩ := hn2
  have hkc := hk.2.2.2
  have hlt := tc_lt0 (b := b) (n := X 6) (q := X2 9) (by omega)
  have hke : tke b (X 6) (X2 9) = X2 9 + 1 := tke_s2 hT (by omega) rfl (by omega) (by omega) (by omega) (by omega) (by omega)
  have hnx : nxt b (X 6) (X2 9) = sk b (X 6) (X2 9 + 1) := by unfold nxt; rw [hke]
  have hsk := sk_in (b := b) (n := X 6) (p := X2 9 + 1) (by omega)
  rw [d2, hnx] at n2
  have hoo : opc (tc b (X 6) (X2 9)) = 4 ∨ opc (tc b (X 6) (X2 9)) = 5 ∨ opc (tc b (X 6) (X2 9)) = 14 := by
    rcases hc with r | r | r <;> (rw [r]; decide)
  have hol := opl_le (o := lo)
  have h41 : xup (xup U1 3 (U1 3 + ((opl (vcc b (X1 6) (X1 9))).length : Int) + ((opl (orc ti)).length : Int))) 4 (U1 4 + 1) 4 = U1 4 + 1 := rfl
  refine ⟨⟨⟨n1, n5.trans k2, k3, by omega⟩, n6.trans d2, by omega, d4, by omega, d6, d7⟩, hk, ⟨by omega, by rw [h41]; omega⟩, h3, by omega, by rw [opl_len (o := opc (tc b (X 6) (X2 9))) (by omega)]; omega, v5, fun cx sg O E S M => (v7 cx sg O E S M).tr ((q1c ho).tr ?_)⟩
  rw [n2, List.append_assoc]
  exact q0s (by omega)
theorem SMJ.bb (h : SMJ b Pc Pl Nm X X1 U U1 C C1 lo ti i0 c e) (hv : vfl b (X1 6) (X1 9) (U1 4) = 0) (hn : NX b Pc Pl Nm X1 X2) (hn2 : NX b Pc Pl Nm X2 X3) (ho : opc (tc b (X 6) (X2 9)) = 2 ∨ opc (tc b (X 6) (X2 9)) = 3) : SMJ b Pc Pl Nm X X3 U (xup (xup U1 3 (U1 3 + ((opl (vcc b (X1 6) (X1 9))).length : Int) + ((opl (orc ti)).length : Int) + ((opl lo).length : Int))) 4 (U1 4 + 1)) C (wrl (wrl (wrl C1 (U1 3) (opl (vcc b (X1 6) (X1 9)))) (U1 3 + ((opl (vcc b (X1 6) (X1 9))).length : Int)) (opl (orc ti))) (U1 3 + ((opl (vcc b (X1 6) (X1 9))).length : Int) + ((opl (orc ti)).length : Int)) (opl lo)) (opc (tc b (X 6) (X2 9))) (-1) (i0 + 1) (c ++ opl (vcc b (X1 6) (X1 9)) ++ opl (orc ti) ++ opl lo) (e ++ [vcd b (X1 6) (X1 9)] ++ opl ti ++ opl lo) := by
  obtain ⟨v1, v2, v3, v4, v5, v6, v7⟩ := h.v hv hn
  obtain ⟨-, hk, h2, h3, h4, -, -, -⟩ := h
  have hc := opc_23.mp ho
  have hT : TPO b (X 6) := by rw [← v3.2.1]; exact v3.1.1.1
  have hT1 := hT.1
  obtain ⟨d1, d2, d3, d4, d5, d6, d7⟩ := v3
  obtain ⟨k1, k2, k3, k4⟩ := d1
  obtain ⟨n1, n2, n3, n4, n5, n6⟩ := hn2
  have hx9 := k1.nx.1
  have hkc := hk.2.2.2
  have hlt := tc_lt0 (b := b) (n := X 6) (q := X2 9) (by omega)
  have hke : tke b (X 6) (X2 9) = X2 9 + 1 := tke_s2 hT (by omega) rfl (by omega) (by omega) (by omega) (by omega) (by omega)
  have hnx : nxt b (X 6) (X2 9) = sk b (X 6) (X2 9 + 1) := by unfold nxt; rw [hke]
  have hsk := sk_in (b := b) (n := X 6) (p := X2 9 + 1) (by omega)
  rw [d2, hnx] at n2
  have hol := opl_le (o := lo)
  have hncl : ¬ opcl (opc (tc b (X 6) (X2 9))) = true := fun r => by have := opcl_i.mp r; omega
  have d7' : U1 3 + ((opl (vcc b (X1 6) (X1 9))).length : Int) + ((opl (orc ti)).length : Int) = U 3 + ((c ++ opl (vcc b (X1 6) (X1 9)) ++ opl (orc ti)).length : Int) := d7
  have hlen : ((c ++ opl (vcc b (X1 6) (X1 9)) ++ opl (orc ti) ++ opl lo).length : Int) = ((c ++ opl (vcc b (X1 6) (X1 9)) ++ opl (orc ti)).length : Int) + ((opl lo).length : Int) := by rw [List.length_append]; omega
  refine ⟨⟨⟨n1, n5.trans k2, k3, ?_⟩, n6.trans d2, by omega, d4, by rw [hlen]; omega, ?_, ?_⟩, hk, ⟨by omega, ?_⟩, by omega, Or.inl rfl, ?_, v5.app (lo_o h3), fun cx sg O E S M => (v7 cx sg O E S M).tr ((q1n hncl).tr ((q2c ho).tr ?_))⟩
  · show 0 ≤ U1 3 + ((opl (vcc b (X1 6) (X1 9))).length : Int) + ((opl (orc ti)).length : Int) + ((opl lo).length : Int) ∧ U1 3 + ((opl (vcc b (X1 6) (X1 9))).length : Int) + ((opl (orc ti)).length : Int) + ((opl lo).length : Int) ≤ X3 9
    omega
  · rw [wrl_app, ← d6, d7']
  · show U1 3 + ((opl (vcc b (X1 6) (X1 9))).length : Int) + ((opl (orc ti)).length : Int) + ((opl lo).length : Int) = _
    rw [hlen]; omega
  · show U1 4 + 1 = U 4 + (i0 + 1); omega
  · rw [opl_len (o := opc (tc b (X 6) (X2 9))) (by omega), hlen]
    show _ + 1 + ((0 : Nat) : Int) ≤ _
    omega
  · rw [n2, List.append_assoc, List.append_assoc]
    have e1 : e ++ [vcd b (X1 6) (X1 9)] ++ opl ti ++ opl lo = e ++ [vcd b (X1 6) (X1 9)] ++ (opl ti ++ opl lo) := List.append_assoc _ _ _
    rw [e1]
    exact q0s (by omega)
theorem SMJ.ee (h : SMJ b Pc Pl Nm X X1 U U1 C C1 lo ti i0 c e) (hv : vfl b (X1 6) (X1 9) (U1 4) = 0) (hn : NX b Pc Pl Nm X1 X2) (ho : opc (tc b (X 6) (X2 9)) = -1) : SMC b Pc Pl Nm X X2 U (xup (xup U1 3 (U1 3 + ((opl (vcc b (X1 6) (X1 9))).length : Int) + ((opl (orc ti)).length : Int) + ((opl lo).length : Int))) 4 (U1 4 + 1)) C (wrl (wrl (wrl C1 (U1 3) (opl (vcc b (X1 6) (X1 9)))) (U1 3 + ((opl (vcc b (X1 6) (X1 9))).length : Int)) (opl (orc ti))) (U1 3 + ((opl (vcc b (X1 6) (X1 9))).length : Int) + ((opl (orc ti)).length : Int)) (opl lo)) (c ++ opl (vcc b (X1 6) (X1 9)) ++ opl (orc ti) ++ opl lo) (e ++ [vcd b (X1 6) (X1 9)] ++ opl ti ++ opl lo) ∧ X2 10 = 0 := by
  obtain ⟨v1, v2, v3, v4, v5, v6, v7⟩ := h.v hv hn
  obtain ⟨g1, hk, h2, h3, h4, -, -, -⟩ := h
  have g3 := g1.2.2.1
  obtain ⟨d1, d2, d3, d4, d5, d6, d7⟩ := v3
  obtain ⟨k1, k2, k3, k4⟩ := d1
  have hkc := hk.2.2.2
  have hol := opl_le (o := lo)
  have hncl : ¬ opcl (opc (tc b (X 6) (X2 9))) = true := fun r => opcl_ne r ho
  have d7' : U1 3 + ((opl (vcc b (X1 6) (X1 9))).length : Int) + ((opl (orc ti)).length : Int) = U 3 + ((c ++ opl (vcc b (X1 6) (X1 9)) ++ opl (orc ti)).length : Int) := d7
  have hlen : ((c ++ opl (vcc b (X1 6) (X1 9)) ++ opl (orc ti) ++ opl lo).length : Int) = ((c ++ opl (vcc b (X1 6) (X1 9)) ++ opl (orc ti)).length : Int) + ((opl lo).length : Int) := by rw [List.length_append]; omega
  refine ⟨⟨d2, by omega, fun _ => ⟨⟨⟨k1, k2, k3, ?_⟩, d2, by omega, d4, by rw [hlen]; omega, ?_, ?_⟩, by omega, v5.app (lo_o h3), fun cx sg O E S M => (v7 cx sg O E S M).tr ((q1n hncl).tr ((q2n (by omega)).tr ?_))⟩, fun r => absurd k2 r⟩, k2⟩
  · show 0 ≤ U1 3 + ((opl (vcc b (X1 6) (X1 9))).length : Int) + ((opl (orc ti)).length : Int) + ((opl lo).length : Int) ∧ U1 3 + ((opl (vcc b (X1 6) (X1 9))).length : Int) + ((opl (orc ti)).length : Int) + ((opl lo).length : Int) ≤ X2 9
    omega
  · rw [wrl_app, ← d6, d7']
  · show U1 3 + ((opl (vcc b (X1 6) (X1 9))).length : Int) + ((opl (orc ti)).length : Int) + ((opl lo).length : Int) = _
    rw [hlen]; omega
  · rw [List.append_assoc, List.append_assoc]
    have e1 : e ++ [vcd b (X1 6) (X1 9)] ++ opl ti ++ opl lo = e ++ [vcd b (X1 6) (X1 9)] ++ (opl ti ++ opl lo) := List.append_assoc _ _ _
    rw [e1]
    exact Q.rfl_
end
