section
variable {b Pc Pl Nm X X1 X2 X3 X4 U U1 U2 U3 C C1 C2 C3 s s2 : Int → Int} {c c1 c2 e e1 e2 cS cE eS eE : List Int} {st : Int}
def CE2 (eE cE : List Int) : Prop := (eE = [] ∧ cE = []) ∨ (eE ≠ [] ∧ CR eE cE)
/-- a clause was read by the class -/
def CLC (st : Int) (b Pc Pl Nm X X2 U U2 C C2 s s2 : Int → Int) (cS cE eS eE : List Int) : Prop := X2 6 = X 6 ∧ (0 ≤ X2 10 ∧ X2 10 ≤ 10000) ∧ (RB s → RB s2) ∧ (X2 10 = 0 → CPG b Pc Pl Nm X X2 U U2 C C2 (cS ++ cE) ∧ X 9 < X2 9 ∧ CR eS cS ∧ CE2 eE cE ∧ s2 = xup (xup (xup s st (U 3)) (st + 1) (U 3 + (cS.length : Int))) (st + 2) (U 3 + (cS.length : Int) + (cE.length : Int)) ∧ ∀ M : List (List Int × List Int), M.length < 12 → Q b (X 6) (8, -1, -1, 0, 0, X 9, U 4, [], [], [], M) (6, -1, -1, 0, 0, X2 9, U2 4, [], [], [], M ++ [(eS, eE)])) ∧ (¬ X2 10 = 0 → ∀ M : List (List Int × List Int), M.length < 12 → Q b (X 6) (8, -1, -1, 0, 0, X 9, U 4, [], [], [], M) (sX (X2 10)))
theorem CLC.f0 (h : CK b Pc Pl Nm X U) (h7 : ¬ X 7 = 273) (hB : RB s → RB s2) : CLC st b Pc Pl Nm X (xup X 10 (1 + 8 * X 9 + 0)) U U C C s s2 [] [] [] [] ∧ ¬ (1 + 8 * X 9 + 0 = 0) := by
  have hh := h.hd
  have hT1 := hh.1.1
  have hw : ¬ tw b (X 6) (sk b (X 6) (X 9)) = 13 := fun r => h7 (hh.2.2.2.trans ((tkk_w (i := 13) hh.1 hh.2.1.1 (by omega) (by omega)).mpr (by rw [hh.2.2.1] at r; exact r)))
  refine ⟨⟨rfl, ⟨by show 0 ≤ 1 + 8 * X 9 + 0; omega, by show 1 + 8 * X 9 + 0 ≤ 10000; omega⟩, hB, fun r => absurd (show 1 + 8 * X 9 + 0 = 0 from r) (by omega), fun _ M hM => ?_⟩, by omega⟩
  have := q8f (b := b) (n := X 6) (lo := -1) (ti := -1) (cx := 0) (sg := 0) (p := X 9) (k := U 4) (O := []) (E := []) (S := []) (M := M) hw
  rw [hh.2.2.1] at this
  exact this
theorem CLC.go (h : CK b Pc Pl Nm X U) (h7 : X 7 = 273) (hn : NX b Pc Pl Nm X X1) : CPG b Pc Pl Nm X X1 U U C C [] ∧ X 9 < X1 9 ∧ ∀ M : List (List Int × List Int), M.length < 12 → Q b (X 6) (8, -1, -1, 0, 0, X 9, U 4, [], [], [], M) (0, -1, -1, 0, 0, X1 9, U 4, [], [], [], M) := by
  have hh := h.hd
  have hw : tw b (X 6) (X 9) = 13 := (tkk_w (i := 13) hh.1 hh.2.1.1 (by omega) (by omega)).mp (hh.2.2.2.symm.trans h7)
  have hlt := tw_lt0 (b := b) (n := X 6) (q := X 9) (by omega) hh.2.1.2
  have hnx := nxt_wrd (b := b) (n := X 6) (q := X 9) (by omega)
  have n2 := hn.2.1
  rw [hnx] at n2
  have n2' : X1 9 = sk b (X 6) (le_ b (X 6) (X 9)) := n2
  have hsk := sk_in (b := b) (n := X 6) (p := le_ b (X 6) (X 9)) hlt.2
  refine ⟨(CPG.rf h).nx hn, by omega, fun M hM => ?_⟩
  have := q8 (b := b) (n := X 6) (lo := -1) (ti := -1) (cx := 0) (sg := 0) (p := X 9) (k := U 4) (O := []) (E := []) (S := []) (M := M) (by rw [hh.2.2.1]; exact hw) (by omega)
  rw [hh.2.2.1] at this
  rw [n2']
  exact this.tr (q0s hlt.2)
theorem CLC.f1 (h : CK b Pc Pl Nm X U) (h7 : X 7 = 273) (hn : NX b Pc Pl Nm X X1) (hs : SMC b Pc Pl Nm X1 X2 U U2 C C2 c e) (h0 : ¬ X2 10 = 0) (hB : RB s → RB s2) : CLC st b Pc Pl Nm X X2 U U2 C C2 s s2 [] [] [] [] := by
  obtain ⟨g1, g2, g3⟩ := CLC.go (C := C) h h7 hn
  refine ⟨hs.1.trans g1.2.1, hs.2.1, hB, fun r => absurd r h0, fun _ M hM => (g3 M hM).tr ?_⟩
  rw [← g1.2.1]
  exact hs.2.2.2 h0 0 0 [] [] [] M
theorem CLC.o1 (h : CK b Pc Pl Nm X U) (h7 : X 7 = 273) (hn : NX b Pc Pl Nm X X1) (hs : SMC b Pc Pl Nm X1 X2 U U2 C C2 c e) (h0 : X2 10 = 0) (h4 : ¬ X2 7 = 274) : CLC st b Pc Pl Nm X X2 U U2 C C2 s (xup (xup (xup s st (U 3)) (st + 1) (U2 3)) (st + 2) (U2 3)) c [] e [] := by
  obtain ⟨g1, g2, g3⟩ := CLC.go (C := C) h h7 hn
  obtain ⟨s1, s2, s3, s4⟩ := hs.2.2.1 h0
  have hh := s1.1.hd
  have e6 : X2 6 = X 6 := s1.2.1.trans g1.2.1
  have hw : ¬ tw b (X 6) (X2 9) = 14 := fun r => h4 (hh.2.2.2.trans ((tkk_w (i := 14) hh.1 hh.2.1.1 (by omega) (by omega)).mpr (by rw [e6]; exact r)))
  have hp := g1.tr s1
  rw [List.nil_append] at hp
  have hu := s1.2.2.2.2.2.2
  have hT1 := hh.1.1
  have hu3 := s1.1.2.2.2
  have hu0 := h.2.2.2
  have hx0 := h.hd.2.1
  have hT0 := h.hd.1.1
  refine ⟨e6, hs.2.1, fun r => RB_up (RB_up (RB_up r (by omega) (by omega)) (by omega) (by omega)) (by omega) (by omega), fun _ => ⟨by rw [List.append_nil]; exact hp, by omega, s3, Or.inl ⟨rfl, rfl⟩, ?_, fun M hM => (g3 M hM).tr ?_⟩, fun r => absurd h0 r⟩
  · rw [hu]
    show _ = xup (xup (xup s st (U 3)) (st + 1) (U 3 + (c.length : Int))) (st + 2) (U 3 + (c.length : Int) + ((0 : Nat) : Int))
    rw [show U 3 + (c.length : Int) + ((0 : Nat) : Int) = U 3 + (c.length : Int) by omega]
  · have q1 := s4 0 0 [] [] [] M
    rw [g1.2.1] at q1
    exact q1.tr (q30n hw)
theorem CLC.mid (h : CK b Pc Pl Nm X U) (h7 : X 7 = 273) (hn : NX b Pc Pl Nm X X1) (hs : SMC b Pc Pl Nm X1 X2 U U2 C C2 c e) (h0 : X2 10 = 0) (h4 : X2 7 = 274) (hn2 : NX b Pc Pl Nm X2 X3) : CPG b Pc Pl Nm X X3 U U2 C C2 c ∧ X 9 < X3 9 ∧ ∀ M : List (List Int × List Int), M.length < 12 → Q b (X 6) (8, -1, -1, 0, 0, X 9, U 4, [], [], [], M) (4, -1, -1, 0, 0, X3 9, U2 4, [], [], e, M) := by
  obtain ⟨g1, g2, g3⟩ := CLC.go (C := C) h h7 hn
  obtain ⟨s1, s2, s3, s4⟩ := hs.2.2.1 h0
  have hh := s1.1.hd
  have e6 : X2 6 = X 6 := s1.2.1.trans g1.2.1
  have hw : tw b (X2 6) (X2 9) = 14 := (tkk_w (i := 14) hh.1 hh.2.1.1 (by omega) (by omega)).mp (hh.2.2.2.symm.trans h4)
  have hlt := tw_lt0 (b := b) (n := X2 6) (q := X2 9) (by omega) hh.2.1.2
  have hnx := nxt_wrd (b := b) (n := X2 6) (q := X2 9) (by omega)
  have n2 := hn2.2.1
  rw [hnx] at n2
  have n2' : X3 9 = sk b (X2 6) (le_ b (X2 6) (X2 9)) := n2
  have hsk := sk_in (b := b) (n := X2 6) (p := le_ b (X2 6) (X2 9)) hlt.2
  have hp := (g1.tr s1).nx hn2
  rw [List.nil_append] at hp
  refine ⟨hp, by omega, fun M hM => (g3 M hM).tr ?_⟩
  have q1 := s4 0 0 [] [] [] M
  rw [g1.2.1] at q1
  rw [e6] at hw n2' hlt
  rw [n2']
  exact q1.tr ((q30i hw).tr (q4s hlt.2))
theorem CLC.f2 (h : CK b Pc Pl Nm X U) (h7 : X 7 = 273) (hn : NX b Pc Pl Nm X X1) (hs : SMC b Pc Pl Nm X1 X2 U U2 C C2 c e) (h0 : X2 10 = 0) (h4 : X2 7 = 274) (hn2 : NX b Pc Pl Nm X2 X3) (ht : TSC 0 b Pc Pl Nm X3 X4 U2 U3 C2 C3 c2 e2) (h02 : ¬ X4 10 = 0) (hB : RB s → RB s2) : CLC st b Pc Pl Nm X X4 U U3 C C3 s s2 [] [] [] [] := by
  obtain ⟨m1, m2, m3⟩ := CLC.mid h h7 hn hs h0 h4 hn2
  refine ⟨ht.1.trans m1.2.1, ht.2.1, hB, fun r => absurd r h02, fun _ M hM => (m3 M hM).tr ?_⟩
  rw [← m1.2.1]
  exact ht.2.2.2 h02 [] [] e M rfl (Or.inl rfl)
theorem CLC.o2 (h : CK b Pc Pl Nm X U) (h7 : X 7 = 273) (hn : NX b Pc Pl Nm X X1) (hs : SMC b Pc Pl Nm X1 X2 U U2 C C2 c e) (h0 : X2 10 = 0) (h4 : X2 7 = 274) (hn2 : NX b Pc Pl Nm X2 X3) (ht : TSC 0 b Pc Pl Nm X3 X4 U2 U3 C2 C3 c2 e2) (h02 : X4 10 = 0) : CLC st b Pc Pl Nm X X4 U U3 C C3 s (xup (xup (xup s st (U 3)) (st + 1) (U2 3)) (st + 2) (U3 3)) c c2 e e2 := by
  obtain ⟨m1, m2, m3⟩ := CLC.mid h h7 hn hs h0 h4 hn2
  obtain ⟨t1, t2, t3, t4, t5⟩ := ht.2.2.1 h02
  obtain ⟨s1, s2, s3, s4⟩ := hs.2.2.1 h0
  have hu := m1.2.2.2.2.2.2
  have hu2 := t1.2.2.2.2.2.2
  have hu3 := m1.1.2.2.2
  have hu0 := h.2.2.2
  have hx0 := h.hd.2.1
  have hT0 := h.hd.1.1
  have hx3 := m1.1.hd.2.1
  have hT3 := m1.1.hd.1.1
  have hu4 := t1.1.2.2.2
  have hx4 := t1.1.hd.2.1
  have hT4 := t1.1.hd.1.1
  refine ⟨ht.1.trans m1.2.1, ht.2.1, fun r => RB_up (RB_up (RB_up r (by omega) (by omega)) (by omega) (by omega)) (by omega) (by omega), fun _ => ⟨m1.tr t1, by omega, s3, Or.inr ⟨t4, t3⟩, by rw [hu2, hu], fun M hM => (m3 M hM).tr ?_⟩, fun r => absurd h02 r⟩
  have q1 := t5 [] [] e M rfl (Or.inl rfl)
  rw [m1.2.1] at q1
  exact q1.tr q7d
end
set_option maxRecDepth 8000 in
theorem sg_43_0 {d : Nat} {I : XI} {L : XL} {D : GD} {post : XQ}  {u1 : Int} (h : (((-2147483648 ≤ (I 1 (7 : Int)) ∧ (I 1 (7 : Int)) ≤ 2147483647) ∧ (-2147483648 ≤ (273 : Int) ∧ (273 : Int) ≤ 2147483647)) ∧ (((I 1 (7 : Int)) = (273 : Int) → ((0 ≤ u1 ∧ u1 < (25 : Int)) ∧ xR d 43 es_43 18 [xr (some 31), xi u1] [xr (some 1)] (xwr I 33 u1 (I 31 (3 : Int))) L (gG D) 0 0 post)) ∧ (¬ (I 1 (7 : Int)) = (273 : Int) → xR d 43 es_43 8 [xr (some 31), xi u1] [xi (0 : Int), xr (some 1)] I L (gG D) 0 0 post)))) : xR d 43 es_43 0 [xr (some 31), xi u1] [] I L (gG D) 0 0 post := xW_R (fun k => Nat.beq k 8 || Nat.beq k 18 || Nat.beq k 20 || Nat.beq k 39 || Nat.beq k 42) 13 _ _ _ _ _ _ _ _ _ _ _ _ h
set_option maxRecDepth 8000 in
theorem sg_43_19 {d : Nat} {I : XI} {L : XL} {D : GD} {post : XQ}  {u1 : Int} (h : xR d 43 es_43 20 [xr (some 31), xi u1] [xr (some 31)] I L (gG D) 0 0 post) : xR d 43 es_43 19 [xr (some 31), xi u1] [] I L (gG D) 0 0 post := xW_R (fun k => Nat.beq k 8 || Nat.beq k 18 || Nat.beq k 20 || Nat.beq k 39 || Nat.beq k 42) 1 _ _ _ _ _ _ _ _ _ _ _ _ h
set_option maxRecDepth 8000 in
theorem sg_43_21 {d : Nat} {I : XI} {L : XL} {D : GD} {post : XQ}  {u1 : Int} {w0 : Int} (h : ((-2147483648 ≤ w0 ∧ w0 ≤ 2147483647) ∧ ((¬ w0 = 0 → ((0 ≤ (u1 + (1 : Int)) ∧ (u1 + (1 : Int)) < (25 : Int)) ∧ (((-2147483648 ≤ (I 1 (7 : Int)) ∧ (I 1 (7 : Int)) ≤ 2147483647) ∧ (-2147483648 ≤ (274 : Int) ∧ (274 : Int) ≤ 2147483647)) ∧ ((¬ (I 1 (7 : Int)) = (274 : Int) → ((0 ≤ (u1 + (2 : Int)) ∧ (u1 + (2 : Int)) < (25 : Int)) ∧ (((1 : Int) = 0 ∨ (1 : Int) = 1) ∧ post (some (xi (1 : Int))) (xwr (xwr I 33 (u1 + (1 : Int)) (I 31 (3 : Int))) 33 (u1 + (2 : Int)) (I 31 (3 : Int))) L (gG D)))) ∧ ((I 1 (7 : Int)) = (274 : Int) → xR d 43 es_43 39 [xr (some 31), xi u1] [xr (some 1)] (xwr I 33 (u1 + (1 : Int)) (I 31 (3 : Int))) L (gG D) 0 0 post))))) ∧ (w0 = 0 → (((0 : Int) = 0 ∨ (0 : Int) = 1) ∧ post (some (xi (0 : Int))) I L (gG D)))))) : xR d 43 es_43 21 [xr (some 31), xi u1] [xi w0] I L (gG D) 0 0 post := xW_R (fun k => Nat.beq k 8 || Nat.beq k 18 || Nat.beq k 20 || Nat.beq k 39 || Nat.beq k 42) 24 _ _ _ _ _ _ _ _ _ _ _ _ h
set_option maxRecDepth 8000 in
theorem sg_43_40 {d : Nat} {I : XI} {L : XL} {D : GD} {post : XQ}  {u1 : Int} (h : xR d 43 es_43 42 [xr (some 31), xi u1] [xi (0 : Int), xr (some 31)] I L (gG D) 0 0 post) : xR d 43 es_43 40 [xr (some 31), xi u1] [] I L (gG D) 0 0 post := xW_R (fun k => Nat.beq k 8 || Nat.beq k 18 || Nat.beq k 20 || Nat.beq k 39 || Nat.beq k 42) 2 _ _ _ _ _ _ _ _ _ _ _ _ h
set_option maxRecDepth 8000 in
theorem sg_43_43 {d : Nat} {I : XI} {L : XL} {D : GD} {post : XQ}  {u1 : Int} {w0 : Int} (h : ((-2147483648 ≤ w0 ∧ w0 ≤ 2147483647) ∧ ((¬ w0 = 0 → ((0 ≤ (u1 + (2 : Int)) ∧ (u1 + (2 : Int)) < (25 : Int)) ∧ (((1 : Int) = 0 ∨ (1 : Int) = 1) ∧ post (some (xi (1 : Int))) (xwr I 33 (u1 + (2 : Int)) (I 31 (3 : Int))) L (gG D)))) ∧ (w0 = 0 → (((0 : Int) = 0 ∨ (0 : Int) = 1) ∧ post (some (xi (0 : Int))) I L (gG D)))))) : xR d 43 es_43 43 [xr (some 31), xi u1] [xi w0] I L (gG D) 0 0 post := xW_R (fun k => Nat.beq k 8 || Nat.beq k 18 || Nat.beq k 20 || Nat.beq k 39 || Nat.beq k 42) 11 _ _ _ _ _ _ _ _ _ _ _ _ h
set_option maxRecDepth 8000 in
theorem sg_43_9 {d : Nat} {I : XI} {L : XL} {D : GD} {post : XQ}  {u1 : Int} {w0 : Int} (h : ((w0 = 0 ∨ w0 = 1) ∧ post (some (xi w0)) I L (gG D))) : xR d 43 es_43 9 [xr (some 31), xi u1] [xi w0] I L (gG D) 0 0 post := xW_R (fun k => Nat.beq k 8 || Nat.beq k 18 || Nat.beq k 20 || Nat.beq k 39 || Nat.beq k 42) 1 _ _ _ _ _ _ _ _ _ _ _ _ h
set_option maxRecDepth 8000 in
theorem w_43 {d : Nat} {I : XI} {L : XL} {D : GD} {post : XQ}   {sr : Int} (hd : 64 ≤ d) (h : (((-2147483648 ≤ (I 1 (7 : Int)) ∧ (I 1 (7 : Int)) ≤ 2147483647)) ∧ (((I 1 (7 : Int)) = (273 : Int) → (((0 ≤ sr ∧ sr < (25 : Int))) ∧ (TXT (I 1) (I 2) (I 3) (I 4) (I 5) ∧ (∀ (e5436 : Int → Int), ((TXT e5436 (I 2) (I 3) (I 4) (I 5) ∧ e5436 9 = (nxt (I 2) (I 1 (6 : Int)) (I 1 (9 : Int))) ∧ e5436 7 = (tkk (I 2) (I 1 (6 : Int)) (nxt (I 2) (I 1 (6 : Int)) (I 1 (9 : Int)))) ∧ e5436 8 = (tkv (I 2) (I 1 (6 : Int)) (nxt (I 2) (I 1 (6 : Int)) (I 1 (9 : Int)))) ∧ e5436 10 = I 1 (10 : Int) ∧ e5436 6 = I 1 (6 : Int)) → (CK (I 2) (I 3) (I 4) (I 5) e5436 (I 31) ∧ (∀ (e5437 : Int → Int) (e5438 : Int → Int) (e5439 : Int → Int) (e5440 : List Int) (e5441 : List Int), (SMC (I 2) (I 3) (I 4) (I 5) e5436 e5437 (I 31) e5438 (I 32) e5439 e5440 e5441 → (((e5437 10 = 0 → (((0 ≤ (sr + (1 : Int)) ∧ (sr + (1 : Int)) < (25 : Int))) ∧ (((-2147483648 ≤ (e5437 (7 : Int)) ∧ (e5437 (7 : Int)) ≤ 2147483647)) ∧ ((¬ (e5437 (7 : Int)) = (274 : Int) → (((0 ≤ (sr + (2 : Int)) ∧ (sr + (2 : Int)) < (25 : Int))) ∧ post (some (xi (1 : Int))) (xsc (xsc (xsc (xsc I 1 e5437) 31 e5438) 32 e5439) 33 (xup (xup (xup (I 33) sr (I 31 (3 : Int))) (sr + (1 : Int)) (e5438 (3 : Int))) (sr + (2 : Int)) (e5438 (3 : Int)))) L (gG D))) ∧ ((e5437 (7 : Int)) = (274 : Int) → (TXT e5437 (I 2) (I 3) (I 4) (I 5) ∧ (∀ (e5442 : Int → Int), ((TXT e5442 (I 2) (I 3) (I 4) (I 5) ∧ e5442 9 = (nxt (I 2) (e5437 (6 : Int)) (e5437 (9 : Int))) ∧ e5442 7 = (tkk (I 2) (e5437 (6 : Int)) (nxt (I 2) (e5437 (6 : Int)) (e5437 (9 : Int)))) ∧ e5442 8 = (tkv (I 2) (e5437 (6 : Int)) (nxt (I 2) (e5437 (6 : Int)) (e5437 (9 : Int)))) ∧ e5442 10 = e5437 (10 : Int) ∧ e5442 6 = e5437 (6 : Int)) → ((CK (I 2) (I 3) (I 4) (I 5) e5442 e5438 ∧ (0 ≤ (0 : Int) ∧ (0 : Int) ≤ 10)) ∧ (∀ (e5443 : Int → Int) (e5444 : Int → Int) (e5445 : Int → Int) (e5446 : List Int) (e5447 : List Int), (TSC (0 : Int) (I 2) (I 3) (I 4) (I 5) e5442 e5443 e5438 e5444 e5439 e5445 e5446 e5447 → (((e5443 10 = 0 → (((0 ≤ (sr + (2 : Int)) ∧ (sr + (2 : Int)) < (25 : Int))) ∧ post (some (xi (1 : Int))) (xsc (xsc (xsc (xsc I 1 e5443) 31 e5444) 32 e5445) 33 (xup (xup (xup (I 33) sr (I 31 (3 : Int))) (sr + (1 : Int)) (e5438 (3 : Int))) (sr + (2 : Int)) (e5444 (3 : Int)))) L (gG D))) ∧ (¬ (e5443 10 = 0) → post (some (xi (0 : Int))) (xsc (xsc (xsc (xsc I 1 e5443) 31 e5444) 32 e5445) 33 (xup (xup (I 33) sr (I 31 (3 : Int))) (sr + (1 : Int)) (e5438 (3 : Int)))) L (gG D))))))))))))))) ∧ (¬ (e5437 10 = 0) → post (some (xi (0 : Int))) (xsc (xsc (xsc (xsc I 1 e5437) 31 e5438) 32 e5439) 33 (xup (I 33) sr (I 31 (3 : Int)))) L (gG D)))))))))))) ∧ (¬ (I 1 (7 : Int)) = (273 : Int) → post (some (xi (xb (False)))) (xsc I 1 (xup (I 1) (10 : Int) (1 + 8 * I 1 (9 : Int) + (0 : Int)))) L (gG D))))) : xR d 43 es_43 0 [xr (some 31), xi sr] [] I L (gG D) 0 0 post := sg_43_0  (⟨⟨h.1, (by decide)⟩, ⟨fun q5454 => ⟨(h.2.1 q5454).1, (xR_cQ rfl rfl rfl (c_94_t (h.2.1 q5454).2.1) (by omega) (fun _ _ _ _ hx5456 => by obtain ⟨e5436, hp5457, rfl, rfl, rfl, rfl⟩ := hx5456; exact (sg_43_19  (xR_cQ rfl rfl rfl (c_48 ((h.2.1 q5454).2.2 e5436 hp5457).1) (by omega) (fun _ _ _ _ hx5458 => by obtain ⟨e5437, e5438, e5439, e5440, e5441, hp5459, rfl, rfl, rfl, rfl⟩ := hx5458; exact (sg_43_21  ⟨(xb_rg _), ⟨fun q5452 => ⟨((((h.2.1 q5454).2.2 e5436 hp5457).2 e5437 e5438 e5439 e5440 e5441 hp5459).1 (xb_n0 q5452)).1, ⟨⟨((((h.2.1 q5454).2.2 e5436 hp5457).2 e5437 e5438 e5439 e5440 e5441 hp5459).1 (xb_n0 q5452)).2.1, (by decide)⟩, ⟨fun q5450 => ⟨(((((h.2.1 q5454).2.2 e5436 hp5457).2 e5437 e5438 e5439 e5440 e5441 hp5459).1 (xb_n0 q5452)).2.2.1 q5450).1, ⟨(by decide), (xpost (((((h.2.1 q5454).2.2 e5436 hp5457).2 e5437 e5438 e5439 e5440 e5441 hp5459).1 (xb_n0 q5452)).2.2.1 q5450).2 (funext fun i => (xpt rfl (fun h33_ => (xpt rfl (fun h32_ => (xpt rfl (fun h31_ => (xpt rfl (fun h1_ => (by simp only [xsc_ne _ _ h1_, xwr_ne _ _ _ h1_, xsc_ne _ _ h31_, xwr_ne _ _ _ h31_, xsc_ne _ _ h32_, xwr_ne _ _ _ h32_, xsc_ne _ _ h33_, xwr_ne _ _ _ h33_])))))))))) rfl)⟩⟩, fun q5451 => (xR_cQ rfl rfl rfl (c_94_t (((((h.2.1 q5454).2.2 e5436 hp5457).2 e5437 e5438 e5439 e5440 e5441 hp5459).1 (xb_n0 q5452)).2.2.2 q5451).1) (by omega) (fun _ _ _ _ hx5460 => by obtain ⟨e5442, hp5461, rfl, rfl, rfl, rfl⟩ := hx5460; exact (sg_43_40  (xR_cQ rfl rfl rfl (tst_0 _ _ _ _ ((((((h.2.1 q5454).2.2 e5436 hp5457).2 e5437 e5438 e5439 e5440 e5441 hp5459).1 (xb_n0 q5452)).2.2.2 q5451).2 e5442 hp5461).1) (by omega) (fun _ _ _ _ hx5462 => by obtain ⟨e5443, e5444, e5445, e5446, e5447, hp5463, rfl, rfl, rfl, rfl⟩ := hx5462; exact (sg_43_43  ⟨(xb_rg _), ⟨fun q5448 => ⟨((((((((h.2.1 q5454).2.2 e5436 hp5457).2 e5437 e5438 e5439 e5440 e5441 hp5459).1 (xb_n0 q5452)).2.2.2 q5451).2 e5442 hp5461).2 e5443 e5444 e5445 e5446 e5447 hp5463).1 (xb_n0 q5448)).1, ⟨(by decide), (xpost ((((((((h.2.1 q5454).2.2 e5436 hp5457).2 e5437 e5438 e5439 e5440 e5441 hp5459).1 (xb_n0 q5452)).2.2.2 q5451).2 e5442 hp5461).2 e5443 e5444 e5445 e5446 e5447 hp5463).1 (xb_n0 q5448)).2 (funext fun i => (xpt rfl (fun h33_ => (xpt rfl (fun h32_ => (xpt rfl (fun h31_ => (xpt rfl (fun h1_ => (by simp only [xsc_ne _ _ h1_, xwr_ne _ _ _ h1_, xsc_ne _ _ h31_, xwr_ne _ _ _ h31_, xsc_ne _ _ h32_, xwr_ne _ _ _ h32_, xsc_ne _ _ h33_, xwr_ne _ _ _ h33_])))))))))) rfl)⟩⟩, fun q5449 => ⟨(by decide), (xpost ((((((((h.2.1 q5454).2.2 e5436 hp5457).2 e5437 e5438 e5439 e5440 e5441 hp5459).1 (xb_n0 q5452)).2.2.2 q5451).2 e5442 hp5461).2 e5443 e5444 e5445 e5446 e5447 hp5463).2 (xb_0 q5449)) (funext fun i => (xpt rfl (fun h33_ => (xpt rfl (fun h32_ => (xpt rfl (fun h31_ => (xpt rfl (fun h1_ => (by simp only [xsc_ne _ _ h1_, xwr_ne _ _ _ h1_, xsc_ne _ _ h31_, xwr_ne _ _ _ h31_, xsc_ne _ _ h32_, xwr_ne _ _ _ h32_, xsc_ne _ _ h33_, xwr_ne _ _ _ h33_])))))))))) rfl)⟩⟩⟩))))))⟩⟩⟩, fun q5453 => ⟨(by decide), (xpost ((((h.2.1 q5454).2.2 e5436 hp5457).2 e5437 e5438 e5439 e5440 e5441 hp5459).2 (xb_0 q5453)) (funext fun i => (xpt rfl (fun h33_ => (xpt rfl (fun h32_ => (xpt rfl (fun h31_ => (xpt rfl (fun h1_ => (by simp only [xsc_ne _ _ h1_, xwr_ne _ _ _ h1_, xsc_ne _ _ h31_, xwr_ne _ _ _ h31_, xsc_ne _ _ h32_, xwr_ne _ _ _ h32_, xsc_ne _ _ h33_, xwr_ne _ _ _ h33_])))))))))) rfl)⟩⟩⟩))))))⟩, fun q5455 => (xR_cF rfl rfl rfl c_95 (by omega) (sg_43_9  ⟨(xb_01 _), (h.2.2 q5455)⟩))⟩⟩)
theorem c_43 {I : XI} {L : XL} {D : GD}   {sr : Int} (h : (CK (I 2) (I 3) (I 4) (I 5) (I 1) (I 31) ∧ (0 ≤ sr ∧ sr ≤ 22))) : xM 64 43 [xr (some 31), xi sr] I L (gG D) (0, 0) (fun r2 I2 L2 G2 => ∃ (X9 : Int → Int) (U9 : Int → Int) (C9 : Int → Int) (s9 : Int → Int) (cS : List Int) (cE : List Int) (eS : List Int) (eE : List Int), CLC sr (I 2) (I 3) (I 4) (I 5) (I 1) X9 (I 31) U9 (I 32) C9 (I 33) s9 cS cE eS eE ∧ r2 = (some (xi (xb (X9 10 = 0)))) ∧ I2 = (xsc (xsc (xsc (xsc I 1 X9) 31 U9) 32 C9) 33 s9) ∧ L2 = L ∧ G2 = (gG D)) := by
  intro d hd
  obtain ⟨hk, hsr⟩ := h
  have hh := hk.hd
  have hkr := tkk_rg (q := I 1 9) hh.1
  rw [← hh.2.2.2] at hkr
  have hu3 := hk.2.2.2
  have hT1 := hh.1.1
  refine w_43 (by omega) ?_
  refine ⟨⟨by omega, by omega⟩, fun y => ?_, fun n => ?_⟩
  rotate_left
  · have hz := CLC.f0 (st := sr) (C := I 32) (s := I 33) (s2 := I 33) hk n (fun r => r)
    rw [xb_f (fun r : False => r)]
    exact ⟨_, _, _, _, _, _, _, _, hz.1, (congrArg (fun x => some (xi x)) (xb_f hz.2)).symm, by (funext i; by_cases h1 : i = 1; (subst h1; first | rfl | exact (xcp_zero _ _ _ _).symm | exact (xup_self _ _).symm | exact (xup_self2 _ _ _).symm | exact (xup_self3 _ _ _ _).symm | exact xup_self _ _); by_cases h31 : i = 31; (subst h31; first | rfl | exact (xcp_zero _ _ _ _).symm | exact (xup_self _ _).symm | exact (xup_self2 _ _ _).symm | exact (xup_self3 _ _ _ _).symm | exact xup_self _ _); by_cases h32 : i = 32; (subst h32; first | rfl | exact (xcp_zero _ _ _ _).symm | exact (xup_self _ _).symm | exact (xup_self2 _ _ _).symm | exact (xup_self3 _ _ _ _).symm | exact xup_self _ _); by_cases h33 : i = 33; (subst h33; first | rfl | exact (xcp_zero _ _ _ _).symm | exact (xup_self _ _).symm | exact (xup_self2 _ _ _).symm | exact (xup_self3 _ _ _ _).symm | exact xup_self _ _); first | rfl | simp only [xsc_ne _ _ h1, xsc_ne _ _ h31, xsc_ne _ _ h32, xsc_ne _ _ h33]), (by first | rfl | trivial), (by first | rfl | trivial)⟩
  refine ⟨⟨by omega, by omega⟩, hk.1, fun X1 hn => ?_⟩
  have hg := CLC.go (C := I 32) hk y hn
  refine ⟨hg.1.1, fun X2 U2 C2 c2 e2 hs => ⟨fun h0 => ?_, fun h0 => ?_⟩⟩
  rotate_left
  · exact ⟨_, _, _, xup (I 33) sr (I 31 3), _, _, _, _, CLC.f1 (st := sr) (s := I 33) hk y hn hs h0 (fun r => RB_up r (by omega) (by omega)), (congrArg (fun x => some (xi x)) (xb_f h0)).symm, (by first | rfl | trivial), (by first | rfl | trivial), (by first | rfl | trivial)⟩
  have hk2 := (hs.2.2.1 h0).1.1
  have hh2 := hk2.hd
  have hkr2 := tkk_rg (q := X2 9) hh2.1
  rw [← hh2.2.2.2] at hkr2
  have hu32 := hk2.2.2.2
  have hT2 := hh2.1.1
  refine ⟨⟨by omega, by omega⟩, ⟨by omega, by omega⟩, fun n4 => ?_, fun y4 => ?_⟩
  rotate_left
  · refine ⟨hk2.1, fun X3 hn2 => ?_⟩
    have hm := CLC.mid hk y hn hs h0 y4 hn2
    refine ⟨⟨hm.1.1, by decide, by decide⟩, fun X4 U4 C4 c4 e4 ht => ⟨fun h02 => ?_, fun h02 => ?_⟩⟩
    · refine ⟨⟨by omega, by omega⟩, ?_⟩
      exact ⟨_, _, _, _, _, _, _, _, CLC.o2 (st := sr) (s := I 33) hk y hn hs h0 y4 hn2 ht h02, (congrArg (fun x => some (xi x)) (xb_t h02)).symm, (by first | rfl | trivial), (by first | rfl | trivial), (by first | rfl | trivial)⟩
    · exact ⟨_, _, _, xup (xup (I 33) sr (I 31 3)) (sr + 1) (U2 3), _, _, _, _, CLC.f2 (st := sr) (s := I 33) hk y hn hs h0 y4 hn2 ht h02 (fun r => RB_up (RB_up r (by omega) (by omega)) (by omega) (by omega)), (congrArg (fun x => some (xi x)) (xb_f h02)).symm, (by first | rfl | trivial), (by first | rfl | trivial), (by first | rfl | trivial)⟩
  · refine ⟨⟨by omega, by omega⟩, ?_⟩
    exact ⟨_, _, _, _, _, _, _, _, CLC.o1 (st := sr) (s := I 33) hk y hn hs h0 n4, (congrArg (fun x => some (xi x)) (xb_t h0)).symm, (by first | rfl | trivial), (by first | rfl | trivial), (by first | rfl | trivial)⟩
