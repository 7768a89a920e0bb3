theorem tkk_cm {b : Int → Int} {n q : Int} (hT : TPO b n) (q0 : 0 ≤ q) : (cmn (tkk b n q) = -1 ↔ ¬ (tc b n q = 60 ∨ tc b n q = 61 ∨ tc b n q = 62)) ∧ ((tc b n q = 60 ∨ tc b n q = 61 ∨ tc b n q = 62) → cmn (tkk b n q) = cms b n q + 1 ∧ tke b n q = cme b n q) := by
  have htr := tc_rg hT q
  have htw := tw_rg b n q
  by_cases pn : q < n
  · have hv := tc_val hT q0 pn
    by_cases d : dgt b n q = true
    · have h1 := of_decide_eq_true d
      have e : tkk b n q = 256 := (tkk_256 hT q0).mpr d
      rw [e]
      exact ⟨⟨fun _ => by omega, fun _ => rfl⟩, fun r => by omega⟩
    · by_cases l : ltr b n q = true
      · have h1 := of_decide_eq_true l
        have e : tkk b n q = 257 ∨ 260 ≤ tkk b n q := by
          unfold tkk
          rw [if_neg (fun r => r pn), if_neg d, if_pos l]
          by_cases t : tw b n q = -1
          · rw [if_pos t]; omega
          · rw [if_neg t]; omega
        have e2 : cmn (tkk b n q) = -1 := by unfold cmn; (repeat' split) <;> omega
        exact ⟨⟨fun _ => by omega, fun _ => e2⟩, fun r => by omega⟩
      · have e : tkk b n q = if (tc b n q = 60 ∨ tc b n q = 62) ∧ tc b n (q + 1) = 61 then (if tc b n q = 60 then 258 else 259) else tc b n q := by
          unfold tkk
          rw [if_neg (fun r => r pn), if_neg d, if_neg l]
        have f : tke b n q = if (tc b n q = 60 ∨ tc b n q = 62) ∧ tc b n (q + 1) = 61 then q + 2 else q + 1 := by
          unfold tke
          rw [if_neg (fun r => r pn), if_neg d, if_neg l]
        have g : cme b n q = if (tc b n q = 60 ∨ tc b n q = 62) ∧ tc b n (q + 1) = 61 then q + 2 else q + 1 := by
          unfold cme cmo
          by_cases c : (tc b n q = 60 ∨ tc b n q = 62) ∧ tc b n (q + 1) = 61
          · rw [if_pos c, if_pos (decide_eq_true c)]
          · rw [if_neg c, if_neg (by rw [decide_eq_true_eq]; exact c)]
        have s : cms b n q = if tc b n q = 60 then (if (tc b n q = 60 ∨ tc b n q = 62) ∧ tc b n (q + 1) = 61 then 7 else 6) else if tc b n q = 61 then 8 else if (tc b n q = 60 ∨ tc b n q = 62) ∧ tc b n (q + 1) = 61 then 9 else 10 := by
          unfold cms cmo
          by_cases c : (tc b n q = 60 ∨ tc b n q = 62) ∧ tc b n (q + 1) = 61
          · simp only [if_pos c, if_pos (decide_eq_true c)]
          · simp only [if_neg c, if_neg (show ¬ decide ((tc b n q = 60 ∨ tc b n q = 62) ∧ tc b n (q + 1) = 61) = true by rw [decide_eq_true_eq]; exact c)]
        rw [e, f, g, s]
        by_cases c : (tc b n q = 60 ∨ tc b n q = 62) ∧ tc b n (q + 1) = 61
        · simp only [if_pos c]
          by_cases c6 : tc b n q = 60
          · simp only [if_pos c6]
            exact ⟨⟨fun r => absurd r (by decide), fun r => by omega⟩, fun _ => ⟨by decide, trivial⟩⟩
          · have c2 : tc b n q = 62 := by omega
            simp only [if_neg c6, if_neg (show ¬ tc b n q = 61 by omega)]
            exact ⟨⟨fun r => absurd r (by decide), fun r => by omega⟩, fun _ => ⟨by decide, trivial⟩⟩
        · simp only [if_neg c]
          unfold cmn
          refine ⟨⟨fun h => ?_, fun h => ?_⟩, fun h => ⟨?_, trivial⟩⟩
          · revert h; (repeat' split) <;> intros <;> omega
          · (repeat' split) <;> omega
          · (repeat' split) <;> omega
  · have e : tkk b n q = -1 := if_pos pn
    rw [e, tc_end pn]
    exact ⟨⟨fun _ => by decide, fun _ => rfl⟩, fun r => by omega⟩
theorem cr_cm {x : Int} (h : 6 ≤ x ∧ x ≤ 10) : CR [x] [x + 1] := by
  have : x = 6 ∨ x = 7 ∨ x = 8 ∨ x = 9 ∨ x = 10 := by omega
  rcases this with rfl | rfl | rfl | rfl | rfl
  · exact cr_6
  · exact cr_7
  · exact cr_8
  · exact cr_9
  · exact cr_10
section
variable {b Pc Pl Nm X X1 X2 X3 U U1 U2 U3 C C1 C2 C3 : Int → Int} {c c1 c2 e e1 e2 : List Int}
/-- a comparison was read by the class -/
def CMC (b Pc Pl Nm X X2 U U2 C C2 : Int → Int) (c e : List Int) : Prop := X2 6 = X 6 ∧ (0 ≤ X2 10 ∧ X2 10 ≤ 10000) ∧ (X2 10 = 0 → CPG b Pc Pl Nm X X2 U U2 C C2 c ∧ X 9 < X2 9 ∧ CR e c ∧ e ≠ [] ∧ ∀ O E S M, Q b (X 6) (0, -1, -1, 1, 0, X 9, U 4, O, E, S, M) (5, -1, -1, 0, 0, X2 9, U2 4, O, E ++ e, S, M)) ∧ (¬ X2 10 = 0 → ∀ O E S M, Q b (X 6) (0, -1, -1, 1, 0, X 9, U 4, O, E, S, M) (sX (X2 10)))
theorem CMC.f1 (h : SMC b Pc Pl Nm X X1 U U1 C C1 c e) (h0 : ¬ X1 10 = 0) : CMC b Pc Pl Nm X X1 U U1 C C1 [] [] := ⟨h.1, h.2.1, fun r => absurd r h0, fun _ O E S M => h.2.2.2 h0 1 0 O E S M⟩
theorem CMC.f2 (h : SMC b Pc Pl Nm X X1 U U1 C C1 c e) (h0 : X1 10 = 0) (hc : cmn (X1 7) = -1) : CMC b Pc Pl Nm X (xup X1 10 (1 + 8 * X1 9 + 0)) U U1 C C1 [] [] ∧ ¬ (1 + 8 * X1 9 + 0 = 0) := by
  obtain ⟨h1, h2, h3, h4⟩ := h.2.2.1 h0
  have hh := h1.1.hd
  have hT1 := hh.1.1
  rw [hh.2.2.2] at hc
  have hc2 := (tkk_cm hh.1 hh.2.1.1).1.mp hc
  rw [h.1] at hc2
  refine ⟨⟨h.1, ⟨by show 0 ≤ 1 + 8 * X1 9 + 0; omega, by show 1 + 8 * X1 9 + 0 ≤ 10000; omega⟩, fun r => absurd (show 1 + 8 * X1 9 + 0 = 0 from r) (by omega), fun _ O E S M => (h4 1 0 O E S M).tr (q31a hc2)⟩, by omega⟩
theorem CMC.f3 (h : SMC b Pc Pl Nm X X1 U U1 C C1 c e) (h0 : X1 10 = 0) (hc : ¬ cmn (X1 7) = -1) (hk : 60 ≤ U1 4) : CMC b Pc Pl Nm X (xup X1 10 (1 + 8 * X1 9 + 3)) U U1 C C1 [] [] ∧ ¬ (1 + 8 * X1 9 + 3 = 0) := by
  obtain ⟨h1, h2, h3, h4⟩ := h.2.2.1 h0
  have hh := h1.1.hd
  have hT1 := hh.1.1
  have hk1 := h1.1.2.2.1
  rw [hh.2.2.2] at hc
  have hc2 : tc b (X1 6) (X1 9) = 60 ∨ tc b (X1 6) (X1 9) = 61 ∨ tc b (X1 6) (X1 9) = 62 := Classical.byContradiction fun r => hc ((tkk_cm hh.1 hh.2.1.1).1.mpr r)
  rw [h.1] at hc2
  refine ⟨⟨h.1, ⟨by show 0 ≤ 1 + 8 * X1 9 + 3; omega, by show 1 + 8 * X1 9 + 3 ≤ 10000; omega⟩, fun r => absurd (show 1 + 8 * X1 9 + 3 = 0 from r) (by omega), fun _ O E S M => (h4 1 0 O E S M).tr (q31b hc2 (by omega))⟩, by omega⟩
theorem CMC.mid (h : SMC b Pc Pl Nm X X1 U U1 C C1 c e) (h0 : X1 10 = 0) (hc : ¬ cmn (X1 7) = -1) (hk : U1 4 < 60) (hn : NX b Pc Pl Nm X1 X2) : CPG b Pc Pl Nm X X2 U (xup U1 4 (U1 4 + 1)) C C1 c ∧ X1 9 < X2 9 ∧ cmn (X1 7) = cms b (X 6) (X1 9) + 1 ∧ (6 ≤ cms b (X 6) (X1 9) ∧ cms b (X 6) (X1 9) ≤ 10) ∧ ∀ O E S M, Q b (X 6) (0, -1, -1, 1, 0, X 9, U 4, O, E, S, M) (0, -1, -1, 2, cms b (X 6) (X1 9), X2 9, U1 4 + 1, O, E ++ e, S, M) := by
  obtain ⟨h1, h2, h3, h4⟩ := h.2.2.1 h0
  have hh := h1.1.hd
  have hT1 := hh.1.1
  have hk1 := h1.1.2.2.1
  rw [hh.2.2.2] at hc ⊢
  have hc2 : tc b (X1 6) (X1 9) = 60 ∨ tc b (X1 6) (X1 9) = 61 ∨ tc b (X1 6) (X1 9) = 62 := Classical.byContradiction fun r => hc ((tkk_cm hh.1 hh.2.1.1).1.mpr r)
  have hc3 := (tkk_cm hh.1 hh.2.1.1).2 hc2
  have hci := cme_in hc2
  obtain ⟨n1, n2, n3, n4, n5, n6⟩ := hn
  have hnx : nxt b (X1 6) (X1 9) = sk b (X1 6) (cme b (X1 6) (X1 9)) := by unfold nxt; rw [hc3.2]
  have hsk := sk_in (b := b) (n := X1 6) (p := cme b (X1 6) (X1 9)) hci.2
  rw [hnx] at n2
  obtain ⟨⟨k1, k2, k3, k4⟩, a2, a3, a4, a5, a6, a7⟩ := h1
  have hcr := cms_rg (b := b) (n := X1 6) (p := X1 9)
  refine ⟨⟨⟨n1, n5.trans k2, ?_, ?_⟩, n6.trans a2, by omega, ?_, by omega, a6, a7⟩, by omega, ?_, by rw [← a2]; exact hcr, fun O E S M => (h4 1 0 O E S M).tr ?_⟩
  · show 0 ≤ U1 4 + 1 ∧ U1 4 + 1 ≤ 60; omega
  · show 0 ≤ U1 3 ∧ U1 3 ≤ X2 9; omega
  · show U 4 ≤ U1 4 + 1; omega
  · rw [hc3.1, a2]
  · rw [a2] at hc2 hsk hci
    refine (q31c hc2 (by omega)).tr ?_
    rw [n2, a2]
    exact q0s hci.2
theorem CMC.f4 (h : SMC b Pc Pl Nm X X1 U U1 C C1 c e) (h0 : X1 10 = 0) (hc : ¬ cmn (X1 7) = -1) (hk : U1 4 < 60) (hn : NX b Pc Pl Nm X1 X2) (h2 : SMC b Pc Pl Nm X2 X3 (xup U1 4 (U1 4 + 1)) U2 C1 C2 c2 e2) (h02 : ¬ X3 10 = 0) : CMC b Pc Pl Nm X X3 U U2 C C2 [] [] := by
  obtain ⟨m1, m2, m3, m4, m5⟩ := CMC.mid h h0 hc hk hn
  refine ⟨h2.1.trans m1.2.1, h2.2.1, fun r => absurd r h02, fun _ O E S M => (m5 O E S M).tr ?_⟩
  rw [← m1.2.1]
  exact h2.2.2.2 h02 2 _ O (E ++ e) S M
theorem CMC.ok (hkk : CK b Pc Pl Nm X U) (h : SMC b Pc Pl Nm X X1 U U1 C C1 c e) (h0 : X1 10 = 0) (hc : ¬ cmn (X1 7) = -1) (hk : U1 4 < 60) (hn : NX b Pc Pl Nm X1 X2) (h2 : SMC b Pc Pl Nm X2 X3 (xup U1 4 (U1 4 + 1)) U2 C1 C2 c2 e2) (h02 : X3 10 = 0) : (0 ≤ U2 3 ∧ U2 3 < 400) ∧ CMC b Pc Pl Nm X X3 U (xup U2 3 (U2 3 + ((opl (cmn (X1 7))).length : Int))) C (wrl C2 (U2 3) (opl (cmn (X1 7)))) (c ++ c2 ++ opl (cmn (X1 7))) (e ++ e2 ++ [cms b (X 6) (X1 9)]) := by
  obtain ⟨m1, m2, m3, m4, m5⟩ := CMC.mid h h0 hc hk hn
  obtain ⟨g1, g2, g3, g4⟩ := h.2.2.1 h0
  obtain ⟨s1, s2, s3, s4⟩ := h2.2.2.1 h02
  have hx := m1.tr s1
  have m5l := g1.2.2.2.2.1
  have s5l := s1.2.2.2.2.1
  have hl1 := opl_len hc
  have hol : opl (cmn (X1 7)) = [cms b (X 6) (X1 9) + 1] := by rw [m3]; exact if_neg (by omega)
  obtain ⟨⟨k1, k2, k3, k4⟩, a2, a3, a4, a5, a6, a7⟩ := hx
  have hx9 := k1.nx.1
  have hT1 := k1.1.1
  have hk4 := hkk.2.2.2
  have hl2 : ((c ++ c2).length : Int) = (c.length : Int) + (c2.length : Int) := by rw [List.length_append]; omega
  have hl3 : ((c ++ c2 ++ opl (cmn (X1 7))).length : Int) = (c.length : Int) + (c2.length : Int) + 1 := by rw [List.length_append]; omega
  refine ⟨by omega, a2, by omega, fun _ => ⟨⟨⟨k1, k2, k3, ?_⟩, a2, a3, a4, by rw [hl3]; omega, ?_, ?_⟩, by omega, ?_, fun r => by have h9 := congrArg List.length r; rw [List.length_append] at h9; exact absurd h9 (Nat.succ_ne_zero _), fun O E S M => (m5 O E S M).tr ?_⟩, fun r => absurd k2 r⟩
  · show 0 ≤ U2 3 + ((opl (cmn (X1 7))).length : Int) ∧ U2 3 + ((opl (cmn (X1 7))).length : Int) ≤ X3 9; omega
  · rw [wrl_app, ← a6, a7]
  · show U2 3 + ((opl (cmn (X1 7))).length : Int) = _; rw [hl3]; omega
  · rw [hol]; exact (g3.app s3).app (cr_cm m4)
  · have q1 := s4 2 (cms b (X 6) (X1 9)) O (E ++ e) S M
    rw [m1.2.1] at q1
    refine q1.tr (q32.tr ?_)
    rw [List.append_assoc, List.append_assoc, List.append_assoc]
    exact Q.rfl_
end
set_option maxRecDepth 8000 in
theorem sg_47_0 {d : Nat} {I : XI} {L : XL} {D : GD} {post : XQ}   (h : xR d 47 es_47 1 [xr (some 31), xt 0] [xr (some 31)] I L (gG D) 0 0 post) : xR d 47 es_47 0 [xr (some 31), xt 0] [] I L (gG D) 0 0 post := xW_R (fun k => Nat.beq k 1 || Nat.beq k 8 || Nat.beq k 16 || Nat.beq k 25 || Nat.beq k 35 || Nat.beq k 37 || Nat.beq k 43) 1 _ _ _ _ _ _ _ _ _ _ _ _ h
set_option maxRecDepth 8000 in
theorem sg_47_2 {d : Nat} {I : XI} {L : XL} {D : GD} {post : XQ}  {w0 : Int} (h : ((-2147483648 ≤ w0 ∧ w0 ≤ 2147483647) ∧ ((¬ w0 = 0 → xR d 47 es_47 8 [xr (some 31), xt 0] [xi (I 1 (7 : Int))] I L (gG D) 0 0 post) ∧ (w0 = 0 → (((0 : Int) = 0 ∨ (0 : Int) = 1) ∧ post (some (xi (0 : Int))) I L (gG D)))))) : xR d 47 es_47 2 [xr (some 31), xt 0] [xi w0] I L (gG D) 0 0 post := xW_R (fun k => Nat.beq k 1 || Nat.beq k 8 || Nat.beq k 16 || Nat.beq k 25 || Nat.beq k 35 || Nat.beq k 37 || Nat.beq k 43) 4 _ _ _ _ _ _ _ _ _ _ _ _ h
set_option maxRecDepth 8000 in
theorem sg_47_9 {d : Nat} {I : XI} {L : XL} {D : GD} {post : XQ}  {w0 : Int} (h : (((-2147483648 ≤ w0 ∧ w0 ≤ 2147483647) ∧ (-2147483648 ≤ (-1 : Int) ∧ (-1 : Int) ≤ 2147483647)) ∧ ((¬ w0 = (-1 : Int) → (((-2147483648 ≤ (I 31 (4 : Int)) ∧ (I 31 (4 : Int)) ≤ 2147483647) ∧ (-2147483648 ≤ (60 : Int) ∧ (60 : Int) ≤ 2147483647)) ∧ (((I 31 (4 : Int)) < (60 : Int) → xR d 47 es_47 35 [xr (some 31), xi w0] [xr (some 1)] (xwr I 31 (4 : Int) ((I 31 (4 : Int)) + (1 : Int))) L (gG D) 0 0 post) ∧ ((60 : Int) ≤ (I 31 (4 : Int)) → xR d 47 es_47 25 [xr (some 31), xi w0] [xi (3 : Int), xr (some 1)] I L (gG D) 0 0 post)))) ∧ (w0 = (-1 : Int) → xR d 47 es_47 16 [xr (some 31), xi w0] [xi (0 : Int), xr (some 1)] I L (gG D) 0 0 post)))) : xR d 47 es_47 9 [xr (some 31), xt 0] [xi w0] I L (gG D) 0 0 post := xW_R (fun k => Nat.beq k 1 || Nat.beq k 8 || Nat.beq k 16 || Nat.beq k 25 || Nat.beq k 35 || Nat.beq k 37 || Nat.beq k 43) 16 _ _ _ _ _ _ _ _ _ _ _ _ h
set_option maxRecDepth 8000 in
theorem sg_47_36 {d : Nat} {I : XI} {L : XL} {D : GD} {post : XQ}  {u1 : Int} (h : xR d 47 es_47 37 [xr (some 31), xi u1] [xr (some 31)] I L (gG D) 0 0 post) : xR d 47 es_47 36 [xr (some 31), xi u1] [] I L (gG D) 0 0 post := xW_R (fun k => Nat.beq k 1 || Nat.beq k 8 || Nat.beq k 16 || Nat.beq k 25 || Nat.beq k 35 || Nat.beq k 37 || Nat.beq k 43) 1 _ _ _ _ _ _ _ _ _ _ _ _ h
set_option maxRecDepth 8000 in
theorem sg_47_38 {d : Nat} {I : XI} {L : XL} {D : GD} {post : XQ}  {u1 : Int} {w0 : Int} (h : ((-2147483648 ≤ w0 ∧ w0 ≤ 2147483647) ∧ ((¬ w0 = 0 → xR d 47 es_47 43 [xr (some 31), xi u1] [xi u1, xr (some 31)] I L (gG D) 0 0 post) ∧ (w0 = 0 → (((0 : Int) = 0 ∨ (0 : Int) = 1) ∧ post (some (xi (0 : Int))) I L (gG D)))))) : xR d 47 es_47 38 [xr (some 31), xi u1] [xi w0] I L (gG D) 0 0 post := xW_R (fun k => Nat.beq k 1 || Nat.beq k 8 || Nat.beq k 16 || Nat.beq k 25 || Nat.beq k 35 || Nat.beq k 37 || Nat.beq k 43) 3 _ _ _ _ _ _ _ _ _ _ _ _ h
set_option maxRecDepth 8000 in
theorem sg_47_44 {d : Nat} {I : XI} {L : XL} {D : GD} {post : XQ}  {u1 : Int} (h : (((1 : Int) = 0 ∨ (1 : Int) = 1) ∧ post (some (xi (1 : Int))) I L (gG D))) : xR d 47 es_47 44 [xr (some 31), xi u1] [] I L (gG D) 0 0 post := xW_R (fun k => Nat.beq k 1 || Nat.beq k 8 || Nat.beq k 16 || Nat.beq k 25 || Nat.beq k 35 || Nat.beq k 37 || Nat.beq k 43) 2 _ _ _ _ _ _ _ _ _ _ _ _ h
set_option maxRecDepth 8000 in
theorem sg_47_26 {d : Nat} {I : XI} {L : XL} {D : GD} {post : XQ}  {u1 : Int} {w0 : Int} (h : ((w0 = 0 ∨ w0 = 1) ∧ post (some (xi w0)) I L (gG D))) : xR d 47 es_47 26 [xr (some 31), xi u1] [xi w0] I L (gG D) 0 0 post := xW_R (fun k => Nat.beq k 1 || Nat.beq k 8 || Nat.beq k 16 || Nat.beq k 25 || Nat.beq k 35 || Nat.beq k 37 || Nat.beq k 43) 1 _ _ _ _ _ _ _ _ _ _ _ _ h
set_option maxRecDepth 8000 in
theorem sg_47_17 {d : Nat} {I : XI} {L : XL} {D : GD} {post : XQ}  {u1 : Int} {w0 : Int} (h : ((w0 = 0 ∨ w0 = 1) ∧ post (some (xi w0)) I L (gG D))) : xR d 47 es_47 17 [xr (some 31), xi u1] [xi w0] I L (gG D) 0 0 post := xW_R (fun k => Nat.beq k 1 || Nat.beq k 8 || Nat.beq k 16 || Nat.beq k 25 || Nat.beq k 35 || Nat.beq k 37 || Nat.beq k 43) 1 _ _ _ _ _ _ _ _ _ _ _ _ h
set_option maxRecDepth 8000 in
theorem w_47 {d : Nat} {I : XI} {L : XL} {D : GD} {post : XQ}    (hd : 2 ≤ d) (h : (CK (I 2) (I 3) (I 4) (I 5) (I 1) (I 31) ∧ (∀ (e5032 : Int → Int) (e5033 : Int → Int) (e5034 : Int → Int) (e5035 : List Int) (e5036 : List Int), (SMC (I 2) (I 3) (I 4) (I 5) (I 1) e5032 (I 31) e5033 (I 32) e5034 e5035 e5036 → (((e5032 10 = 0 → ((-2147483648 ≤ (e5032 (7 : Int)) ∧ (e5032 (7 : Int)) ≤ 2147483647) ∧ (((-2147483648 ≤ (cmn (e5032 (7 : Int))) ∧ (cmn (e5032 (7 : Int))) ≤ 2147483647)) ∧ ((¬ (cmn (e5032 (7 : Int))) = (-1 : Int) → (((-2147483648 ≤ (e5033 (4 : Int)) ∧ (e5033 (4 : Int)) ≤ 2147483647)) ∧ (((e5033 (4 : Int)) < (60 : Int) → (TXT e5032 (I 2) (I 3) (I 4) (I 5) ∧ (∀ (e5037 : Int → Int), ((TXT e5037 (I 2) (I 3) (I 4) (I 5) ∧ e5037 9 = (nxt (I 2) (e5032 (6 : Int)) (e5032 (9 : Int))) ∧ e5037 7 = (tkk (I 2) (e5032 (6 : Int)) (nxt (I 2) (e5032 (6 : Int)) (e5032 (9 : Int)))) ∧ e5037 8 = (tkv (I 2) (e5032 (6 : Int)) (nxt (I 2) (e5032 (6 : Int)) (e5032 (9 : Int)))) ∧ e5037 10 = e5032 (10 : Int) ∧ e5037 6 = e5032 (6 : Int)) → (CK (I 2) (I 3) (I 4) (I 5) e5037 (xup e5033 (4 : Int) ((e5033 (4 : Int)) + (1 : Int))) ∧ (∀ (e5038 : Int → Int) (e5039 : Int → Int) (e5040 : Int → Int) (e5041 : List Int) (e5042 : List Int), (SMC (I 2) (I 3) (I 4) (I 5) e5037 e5038 (xup e5033 (4 : Int) ((e5033 (4 : Int)) + (1 : Int))) e5039 e5034 e5040 e5041 e5042 → (((e5038 10 = 0 → (((-2147483648 ≤ (cmn (e5032 (7 : Int))) ∧ (cmn (e5032 (7 : Int))) ≤ 2147483647) ∧ (¬ (cmn (e5032 (7 : Int))) = -1 → 0 ≤ e5039 (3 : Int) ∧ e5039 (3 : Int) < 400)) ∧ post (some (xi (1 : Int))) (xsc (xsc (xsc I 1 e5038) 31 (xup e5039 (3 : Int) (e5039 (3 : Int) + ((opl (cmn (e5032 (7 : Int)))).length : Int)))) 32 (wrl e5040 (e5039 (3 : Int)) (opl (cmn (e5032 (7 : Int)))))) L (gG D))) ∧ (¬ (e5038 10 = 0) → post (some (xi (0 : Int))) (xsc (xsc (xsc I 1 e5038) 31 e5039) 32 e5040) L (gG D))))))))))) ∧ ((60 : Int) ≤ (e5033 (4 : Int)) → post (some (xi (xb (False)))) (xsc (xsc (xsc I 1 (xup e5032 (10 : Int) (1 + 8 * e5032 (9 : Int) + (3 : Int)))) 31 e5033) 32 e5034) L (gG D))))) ∧ ((cmn (e5032 (7 : Int))) = (-1 : Int) → post (some (xi (xb (False)))) (xsc (xsc (xsc I 1 (xup e5032 (10 : Int) (1 + 8 * e5032 (9 : Int) + (0 : Int)))) 31 e5033) 32 e5034) L (gG D)))))) ∧ (¬ (e5032 10 = 0) → post (some (xi (0 : Int))) (xsc (xsc (xsc I 1 e5032) 31 e5033) 32 e5034) L (gG D)))))))) : xR d 47 es_47 0 [xr (some 31), xt 0] [] I L (gG D) 0 0 post := sg_47_0  ((xR_cQ rfl rfl rfl (c_48 h.1) (by omega) (fun _ _ _ _ hx5051 => by obtain ⟨e5032, e5033, e5034, e5035, e5036, hp5052, rfl, rfl, rfl, rfl⟩ := hx5051; exact (sg_47_2  ⟨(xb_rg _), ⟨fun q5049 => (xR_cF rfl rfl rfl (c_52 ((h.2 e5032 e5033 e5034 e5035 e5036 hp5052).1 (xb_n0 q5049)).1) (by omega) (sg_47_9  ⟨⟨((h.2 e5032 e5033 e5034 e5035 e5036 hp5052).1 (xb_n0 q5049)).2.1, (by decide)⟩, ⟨fun q5047 => ⟨⟨(((h.2 e5032 e5033 e5034 e5035 e5036 hp5052).1 (xb_n0 q5049)).2.2.1 q5047).1, (by decide)⟩, ⟨fun q5045 => (xR_cQ rfl rfl rfl (c_94_t ((((h.2 e5032 e5033 e5034 e5035 e5036 hp5052).1 (xb_n0 q5049)).2.2.1 q5047).2.1 q5045).1) (by omega) (fun _ _ _ _ hx5053 => by obtain ⟨e5037, hp5054, rfl, rfl, rfl, rfl⟩ := hx5053; exact (sg_47_36  (xR_cQ rfl rfl rfl (c_48 (((((h.2 e5032 e5033 e5034 e5035 e5036 hp5052).1 (xb_n0 q5049)).2.2.1 q5047).2.1 q5045).2 e5037 hp5054).1) (by omega) (fun _ _ _ _ hx5055 => by obtain ⟨e5038, e5039, e5040, e5041, e5042, hp5056, rfl, rfl, rfl, rfl⟩ := hx5055; exact (sg_47_38  ⟨(xb_rg _), ⟨fun q5043 => (xR_cF rfl rfl rfl (c_51 (((((((h.2 e5032 e5033 e5034 e5035 e5036 hp5052).1 (xb_n0 q5049)).2.2.1 q5047).2.1 q5045).2 e5037 hp5054).2 e5038 e5039 e5040 e5041 e5042 hp5056).1 (xb_n0 q5043)).1) (by omega) (sg_47_44  ⟨(by decide), (xpost (((((((h.2 e5032 e5033 e5034 e5035 e5036 hp5052).1 (xb_n0 q5049)).2.2.1 q5047).2.1 q5045).2 e5037 hp5054).2 e5038 e5039 e5040 e5041 e5042 hp5056).1 (xb_n0 q5043)).2 (funext fun i => (xpt rfl (fun h32_ => (xpt rfl (fun h31_ => (xpt rfl (fun h1_ => (by simp only [xsc_ne _ _ h1_, xwr_ne _ _ _ h1_, xsc_ne _ _ h31_, xwr_ne _ _ _ h31_, xsc_ne _ _ h32_, xwr_ne _ _ _ h32_])))))))) rfl)⟩)), fun q5044 => ⟨(by decide), (xpost (((((((h.2 e5032 e5033 e5034 e5035 e5036 hp5052).1 (xb_n0 q5049)).2.2.1 q5047).2.1 q5045).2 e5037 hp5054).2 e5038 e5039 e5040 e5041 e5042 hp5056).2 (xb_0 q5044)) (funext fun i => (xpt rfl (fun h32_ => (xpt rfl (fun h31_ => (xpt rfl (fun h1_ => (by simp only [xsc_ne _ _ h1_, xwr_ne _ _ _ h1_, xsc_ne _ _ h31_, xwr_ne _ _ _ h31_, xsc_ne _ _ h32_, xwr_ne _ _ _ h32_])))))))) rfl)⟩⟩⟩)))))), fun q5046 => (xR_cF rfl rfl rfl c_95 (by omega) (sg_47_26  ⟨(xb_01 _), (xpost ((((h.2 e5032 e5033 e5034 e5035 e5036 hp5052).1 (xb_n0 q5049)).2.2.1 q5047).2.2 q5046) (funext fun i => (xpt rfl (fun h32_ => (xpt rfl (fun h31_ => (xpt rfl (fun h1_ => (by simp only [xsc_ne _ _ h1_, xwr_ne _ _ _ h1_, xsc_ne _ _ h31_, xwr_ne _ _ _ h31_, xsc_ne _ _ h32_, xwr_ne _ _ _ h32_])))))))) rfl)⟩))⟩⟩, fun q5048 => (xR_cF rfl rfl rfl c_95 (by omega) (sg_47_17  ⟨(xb_01 _), (xpost (((h.2 e5032 e5033 e5034 e5035 e5036 hp5052).1 (xb_n0 q5049)).2.2.2 q5048) (funext fun i => (xpt rfl (fun h32_ => (xpt rfl (fun h31_ => (xpt rfl (fun h1_ => (by simp only [xsc_ne _ _ h1_, xwr_ne _ _ _ h1_, xsc_ne _ _ h31_, xwr_ne _ _ _ h31_, xsc_ne _ _ h32_, xwr_ne _ _ _ h32_])))))))) rfl)⟩))⟩⟩)), fun q5050 => ⟨(by decide), ((h.2 e5032 e5033 e5034 e5035 e5036 hp5052).2 (xb_0 q5050))⟩⟩⟩))))
theorem c_47 {I : XI} {L : XL} {D : GD}    (h : CK (I 2) (I 3) (I 4) (I 5) (I 1) (I 31)) : xM 2 47 [xr (some 31)] I L (gG D) (0, 0) (fun r2 I2 L2 G2 => ∃ (X9 : Int → Int) (U9 : Int → Int) (C9 : Int → Int) (c9 : List Int) (e9 : List Int), CMC (I 2) (I 3) (I 4) (I 5) (I 1) X9 (I 31) U9 (I 32) C9 c9 e9 ∧ r2 = (some (xi (xb (X9 10 = 0)))) ∧ I2 = (xsc (xsc (xsc I 1 X9) 31 U9) 32 C9) ∧ L2 = L ∧ G2 = (gG D)) := by
  intro d hd
  refine w_47 (by omega) ?_
  refine ⟨h, fun X1 U1 C1 c1 e1 hs => ⟨fun h0 => ?_, fun h0 => ?_⟩⟩
  rotate_left
  · exact ⟨_, _, _, _, _, CMC.f1 hs h0, (congrArg (fun x => some (xi x)) (xb_f h0)).symm, (by first | rfl | trivial), (by first | rfl | trivial), (by first | rfl | trivial)⟩
  have hk := (hs.2.2.1 h0).1.1
  have hh := hk.hd
  have hkr := tkk_rg (q := X1 9) hh.1
  rw [← hh.2.2.2] at hkr
  have hcr := cmn_rg (X1 7)
  have h60 := hk.2.2.1
  refine ⟨⟨by omega, by omega⟩, ⟨by omega, by omega⟩, fun nc => ⟨⟨by omega, by omega⟩, fun hlt => ?_, fun hge => ?_⟩, fun yc => ?_⟩
  · refine ⟨hk.1, fun X2 hn => ?_⟩
    have hm := CMC.mid hs h0 nc hlt hn
    refine ⟨hm.1.1, fun X3 U3 C3 c3 e3 hs2 => ⟨fun h02 => ?_, fun h02 => ?_⟩⟩
    · have hz := CMC.ok h hs h0 nc hlt hn hs2 h02
      exact ⟨⟨⟨by omega, by omega⟩, fun _ => hz.1⟩, ⟨_, _, _, _, _, hz.2, (congrArg (fun x => some (xi x)) (xb_t h02)).symm, (by first | rfl | trivial), (by first | rfl | trivial), (by first | rfl | trivial)⟩⟩
    · exact ⟨_, _, _, _, _, CMC.f4 hs h0 nc hlt hn hs2 h02, (congrArg (fun x => some (xi x)) (xb_f h02)).symm, (by first | rfl | trivial), (by first | rfl | trivial), (by first | rfl | trivial)⟩
  · have hz := CMC.f3 hs h0 nc hge
    rw [xb_f (fun r : False => r)]
    exact ⟨_, _, _, _, _, hz.1, (congrArg (fun x => some (xi x)) (xb_f hz.2)).symm, (by first | rfl | trivial), (by first | rfl | trivial), (by first | rfl | trivial)⟩
  · have hz := CMC.f2 hs h0 yc
    rw [xb_f (fun r : False => r)]
    exact ⟨_, _, _, _, _, hz.1, (congrArg (fun x => some (xi x)) (xb_f hz.2)).symm, (by first | rfl | trivial), (by first | rfl | trivial), (by first | rfl | trivial)⟩
