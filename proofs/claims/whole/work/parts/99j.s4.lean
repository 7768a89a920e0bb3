theorem xup_u2 {f : Int → Int} {j a c : Int} : xup (xup f j a) j c = xup f j c := by
  funext i
  by_cases q : i = j
  · subst q; rw [xup_same, xup_same]
  · rw [xup_ne _ _ q, xup_ne _ _ q, xup_ne _ _ q]
/-- read on so far: e was put down -/
def PG (b T T1 g g1 l l1 : Int → Int) (e : List Int) : Prop := RFr T T1 g g1 l l1 ∧ (T1 13 = T 13 ∧ T1 16 = T 16) ∧ RK b T1 l1 ∧ T 8 ≤ T1 8 ∧ T 12 ≤ T1 12 ∧ (e.length : Int) ≤ T1 8 - T 8 ∧ g1 = wrl g (400 * T 11 + l (T 11)) e ∧ l1 (T 11) = l (T 11) + (e.length : Int)
section
variable {b T T1 T2 g g1 g2 l l1 l2 : Int → Int} {e e2 : List Int}
theorem PG.rf (h : RK b T l) : PG b T T g g l l [] := ⟨RFr.rf, ⟨rfl, rfl⟩, h, Int.le_refl _, Int.le_refl _, by show ((0 : Nat) : Int) ≤ _; omega, rfl, by show l (T 11) = l (T 11) + ((0 : Nat) : Int); omega⟩
theorem PG.tr (h : PG b T T1 g g1 l l1 e) (h2 : PG b T1 T2 g1 g2 l1 l2 e2) : PG b T T2 g g2 l l2 (e ++ e2) := by
  obtain ⟨a1, a2, a3, a4, a5, a6, a7, a8⟩ := h
  obtain ⟨c1, c2, c3, c4, c5, c6, c7, c8⟩ := h2
  have e11 := a1.1 11 (by omega)
  rw [e11] at c7 c8
  refine ⟨a1.tr c1, ⟨c2.1.trans a2.1, c2.2.trans a2.2⟩, c3, by omega, by omega, ?_, ?_, ?_⟩
  · rw [List.length_append]; omega
  · rw [wrl_app, ← a7, c7, a8, Int.add_assoc]
  · rw [List.length_append]; omega
theorem PG.put {x : Int} (hk : RK b T l) (h : PG b T T1 g g1 l l1 e) (hr : (e.length : Int) + 1 ≤ T1 8 - T 8) : PG b T T1 g (xup g1 (400 * T1 11 + l1 (T1 11)) x) l (xup l1 (T1 11) (l1 (T1 11) + 1)) (e ++ [x]) ∧ ((0 ≤ T1 11 ∧ T1 11 < 6) ∧ (0 ≤ l1 (T1 11) ∧ l1 (T1 11) < 400)) := by
  obtain ⟨a1, a2, a3, a4, a5, a6, a7, a8⟩ := h
  obtain ⟨k1, k2, k3, k4, k5, k6, k7⟩ := hk
  obtain ⟨m1, m2, m3, m4, m5, m6, m7⟩ := a3
  have m11 := m1.1
  have e11 := a1.1 11 (by omega)
  rw [e11] at m5 m6 m7 ⊢
  refine ⟨⟨⟨a1.1, fun j hj => ?_, fun j hj => ?_⟩, a2, ⟨m1, m2, m3, m4, by rw [e11]; exact m5, ?_, ?_⟩, a4, a5, ?_, ?_, ?_⟩, m5, by omega⟩
  · rw [xup_ne _ _ (by omega)]; exact a1.2.1 j hj
  · rw [xup_ne _ _ hj]; exact a1.2.2 j hj
  · rw [e11, xup_same]; omega
  · rw [e11, xup_same]; omega
  · rw [List.length_append]; show ((e.length + 1 : Nat) : Int) ≤ _; omega
  · rw [wrl_app, ← a7, a8, ← Int.add_assoc]; rfl
  · rw [List.length_append, xup_same]; show l1 (T 11) + 1 = l (T 11) + ((e.length + 1 : Nat) : Int); omega
theorem PG.mv {p : Int} (h : PG b T T1 g g1 l l1 e) (h1 : T1 8 ≤ p) (h2 : p ≤ T1 1) : PG b T (xup T1 8 p) g g1 l l1 e := by
  obtain ⟨a1, a2, a3, a4, a5, a6, a7, a8⟩ := h
  obtain ⟨m1, m2, m3, m4, m5, m6, m7⟩ := a3
  refine ⟨⟨fun j hj => by rw [xup_ne _ _ (by omega)]; exact a1.1 j hj, a1.2.1, a1.2.2⟩, a2, ⟨m1, ⟨by show 0 ≤ p; omega, h2⟩, m3, m4, m5, ⟨m6.1, by show l1 (T1 11) ≤ p; omega⟩, ⟨m7.1, by show l1 (T1 11) + 0 ≤ p; omega⟩⟩, by show T 8 ≤ p; omega, a5, by show (e.length : Int) ≤ p - T 8; omega, a7, a8⟩
theorem PG.v (hk : RK b T l) (hv : VLP b T T2 g g2 l l2) (h0 : T2 9 = 0) : PG b T T2 g g2 l l2 [vcd b (T 1) (sk b (T 1) (T 8))] ∧ T 8 < T2 8 ∧ T2 12 = T 12 + 1 ∧ vfl b (T 1) (sk b (T 1) (T 8)) (T 12) = 0 ∧ T2 8 = vnd b (T 1) (sk b (T 1) (T 8)) := by
  obtain ⟨v1, v2, v3, v4⟩ := hv
  by_cases w : vfl b (T 1) (sk b (T 1) (T 8)) (T 12) = 0
  · obtain ⟨w1, w2, w3, w4, w5⟩ := v3 w
    obtain ⟨k1, k2, k3, k4, k5, k6, k7⟩ := hk
    have k11 := k1.1
    have hs := sk_in (b := b) k2.2
    have hn := vnd_in w (by omega) hs.2
    have h60 := vfl_k w (by omega)
    have e11 := v1.1 11 (by omega)
    have e1 := v1.1 1 (by omega)
    refine ⟨⟨v1, v2, ⟨by rw [e1]; exact k1, by rw [e1, w2]; omega, h0, by omega, by rw [e11]; exact k5, ?_, ?_⟩, by omega, by omega, ?_, w4, w5⟩, by omega, w3, w, w2⟩
    · rw [e11, w5, w2]; omega
    · rw [e11, w5, w2]; omega
    · show ((1 : Nat) : Int) ≤ _; omega
  · exact absurd (h0 ▸ v4 w).symm w
theorem VLP.wr (hk : RK b T l) (hv : VLP b T T2 g g2 l l2) : (0 ≤ T2 9 ∧ T2 9 ≤ 10000) ∧ (¬ T2 9 = 0 → T2 9 = vfl b (T 1) (sk b (T 1) (T 8)) (T 12)) := by
  obtain ⟨v1, v2, v3, v4⟩ := hv
  obtain ⟨k1, k2, k3, k4, k5, k6, k7⟩ := hk
  have k11 := k1.1
  have hs := sk_in (b := b) k2.2
  have hr := vfl_rg (b := b) (n := T 1) (q := sk b (T 1) (T 8)) (k := T 12) (by omega) (by omega)
  by_cases w : vfl b (T 1) (sk b (T 1) (T 8)) (T 12) = 0
  · have := (v3 w).1; exact ⟨by omega, fun r => absurd this r⟩
  · have := v4 w; exact ⟨by omega, fun _ => this⟩
/-- a term, or a sum (m1: 2, 3), was read -/
def TRMP (b T T2 g g2 l l2 : Int → Int) (e : List Int) : Prop := RFr T T2 g g2 l l2 ∧ (0 ≤ T2 9 ∧ T2 9 ≤ 10000) ∧ (T2 9 = 0 → PG b T T2 g g2 l l2 e ∧ sk b (T 1) (T2 8) = T2 8 ∧ T 8 < T2 8 ∧ T 12 < T2 12 ∧ ∀ lo cx sg O E S M, Q b (T 1) (0, lo, -1, cx, sg, T 8, T 12, O, E, S, M) (2, lo, -1, cx, sg, T2 8, T2 12, O, E ++ e, S, M)) ∧ (¬ T2 9 = 0 → ∀ lo cx sg O E S M, Q b (T 1) (0, lo, -1, cx, sg, T 8, T 12, O, E, S, M) (sX (T2 9)))
def SUMP (b T T2 g g2 l l2 : Int → Int) (e : List Int) : Prop := RFr T T2 g g2 l l2 ∧ (0 ≤ T2 9 ∧ T2 9 ≤ 10000) ∧ (T2 9 = 0 → PG b T T2 g g2 l l2 e ∧ sk b (T 1) (T2 8) = T2 8 ∧ T 8 < T2 8 ∧ T 12 < T2 12 ∧ ∀ cx sg O E S M, Q b (T 1) (0, -1, -1, cx, sg, T 8, T 12, O, E, S, M) (3, -1, -1, cx, sg, T2 8, T2 12, O, E ++ e, S, M)) ∧ (¬ T2 9 = 0 → ∀ cx sg O E S M, Q b (T 1) (0, -1, -1, cx, sg, T 8, T 12, O, E, S, M) (sX (T2 9)))
/-- at the heads of their loops -/
def TRI (b T T1 g g1 l l1 : Int → Int) (e : List Int) : Prop := RK b T l ∧ PG b T T1 g g1 l l1 e ∧ T 8 < T1 8 ∧ T 12 < T1 12 ∧ ∀ lo cx sg O E S M, Q b (T 1) (0, lo, -1, cx, sg, T 8, T 12, O, E, S, M) (1, lo, -1, cx, sg, sk b (T 1) (T1 8), T1 12, O, E ++ e, S, M)
def SMI (b T T1 g g1 l l1 : Int → Int) (e : List Int) : Prop := RK b T l ∧ PG b T T1 g g1 l l1 e ∧ sk b (T 1) (T1 8) = T1 8 ∧ T 8 < T1 8 ∧ T 12 < T1 12 ∧ ∀ cx sg O E S M, Q b (T 1) (0, -1, -1, cx, sg, T 8, T 12, O, E, S, M) (2, -1, -1, cx, sg, T1 8, T1 12, O, E ++ e, S, M)
theorem TRI.st (hk : RK b T l) (hv : VLP b T T2 g g2 l l2) (h0 : T2 9 = 0) : TRI b T T2 g g2 l l2 [vcd b (T 1) (sk b (T 1) (T 8))] := by
  obtain ⟨h1, h2, h3, h4, h5⟩ := PG.v hk hv h0
  refine ⟨hk, h1, h2, by omega, fun lo cx sg O E S M => ?_⟩
  rw [h5, h3]
  exact q0 h4
theorem TRMP.f0 (hk : RK b T l) (hv : VLP b T T2 g g2 l l2) (h0 : ¬ T2 9 = 0) : TRMP b T T2 g g2 l l2 [] := by
  have hw := hv.wr hk
  refine ⟨hv.1, hw.1, fun r => absurd r h0, fun _ lo cx sg O E S M => ?_⟩
  rw [hw.2 h0]
  exact q0f (fun r => h0 ((hw.2 h0).trans r))
theorem TRI.hd (h : TRI b T T1 g g1 l l1 e) : (TPO b (T1 1) ∧ (0 ≤ T1 8 ∧ T1 8 ≤ T1 1)) ∧ T1 1 = T 1 := ⟨⟨h.2.1.2.2.1.1, h.2.1.2.2.1.2.1⟩, h.2.1.1.1 1 (by omega)⟩
theorem TRI.en (h : TRI b T T1 g g1 l l1 e) (hc : ¬ opcl (opc (tc b (T1 1) (sk b (T1 1) (T1 8)))) = true) : TRMP b T (xup T1 8 (sk b (T1 1) (T1 8))) g g1 l l1 e := by
  have hh := h.hd
  obtain ⟨hk, hp, h3, h4, h5⟩ := h
  have hs := sk_in (b := b) hh.1.2.2
  have hss := sk_sk (b := b) hh.1.2.2
  have h9 : T1 9 = 0 := hp.2.2.1.2.2.1
  have hm := hp.mv hs.1 hs.2
  rw [hh.2] at hs hss hc hm ⊢
  refine ⟨hm.1, by show 0 ≤ T1 9 ∧ T1 9 ≤ 10000; omega, fun _ => ⟨hm, hss, by show T 8 < sk b (T 1) (T1 8); omega, h4, fun lo cx sg O E S M => ?_⟩, fun r => absurd h9 r⟩
  refine (h5 lo cx sg O E S M).tr ((q1n hc).tr ?_)
  rw [opl_1, List.append_nil]
  exact Q.rfl_
theorem TRI.rk (h : TRI b T T1 g g1 l l1 e) (hc : sk b (T1 1) (T1 8) < T1 1) : RK b (xup T1 8 (sk b (T1 1) (T1 8) + 1)) l1 := by
  have hs := sk_in (b := b) h.hd.1.2.2
  exact (h.2.1.mv (p := sk b (T1 1) (T1 8) + 1) (by omega) (by omega)).2.2.1
theorem TRI.vf (h : TRI b T T1 g g1 l l1 e) (hc : opcl (opc (tc b (T1 1) (sk b (T1 1) (T1 8)))) = true) (hv : VLP b (xup T1 8 (sk b (T1 1) (T1 8) + 1)) T2 g1 g2 l1 l2) (h0 : ¬ T2 9 = 0) : TRMP b T T2 g g2 l l2 [] := by
  have hh := h.hd
  have hlt := opc_lt (opcl_ne hc)
  have hk2 := h.rk hlt
  have hs := sk_in (b := b) hh.1.2.2
  have hm := h.2.1.mv (p := sk b (T1 1) (T1 8) + 1) (by omega) (by omega)
  have hf := TRMP.f0 hk2 hv h0
  obtain ⟨hk, hp, h3, h4, h5⟩ := h
  refine ⟨hm.1.tr hv.1, hf.2.1, fun r => absurd r h0, fun _ lo cx sg O E S M => ?_⟩
  have hq := hf.2.2.2 h0 lo cx sg O (E ++ e) S M
  have hw := (hv.wr hk2).2 h0
  rw [hw]
  rw [hh.2] at hc
  refine (h5 lo cx sg O E S M).tr ((q1c hc).tr ?_)
  have hv0 : ¬ vfl b (T 1) (sk b (T 1) (sk b (T 1) (T1 8) + 1)) (T1 12) = 0 := fun r => h0 (hw.trans (by
    show vfl b (T1 1) (sk b (T1 1) (sk b (T1 1) (T1 8) + 1)) (T1 12) = 0
    rw [hh.2]; exact r))
  show Q b (T 1) _ (sX (vfl b (T1 1) (sk b (T1 1) (sk b (T1 1) (T1 8) + 1)) (T1 12)))
  rw [hh.2]
  exact q0f hv0
theorem TRI.vo {o : Int} (h : TRI b T T1 g g1 l l1 e) (hc : opcl (opc (tc b (T1 1) (sk b (T1 1) (T1 8)))) = true) (ho : opc (tc b (T1 1) (sk b (T1 1) (T1 8))) = o) (hv : VLP b (xup T1 8 (sk b (T1 1) (T1 8) + 1)) T2 g1 g2 l1 l2) (h0 : T2 9 = 0) : ((0 ≤ T2 11 ∧ T2 11 < 6) ∧ (0 ≤ l2 (T2 11) ∧ l2 (T2 11) < 400)) ∧ T1 8 < T2 8 ∧ TRI b T T2 g (xup g2 (400 * T2 11 + l2 (T2 11)) (o + 16 * 0)) l (xup l2 (T2 11) (l2 (T2 11) + 1)) ((e ++ [vcd b (T1 1) (sk b (T1 1) (sk b (T1 1) (T1 8) + 1))]) ++ [o]) := by
  have hh := h.hd
  have hlt := opc_lt (opcl_ne hc)
  have hk2 := h.rk hlt
  have hs := sk_in (b := b) hh.1.2.2
  have hm := h.2.1.mv (p := sk b (T1 1) (T1 8) + 1) (by omega) (by omega)
  obtain ⟨v1, v2, v3, v4, v5⟩ := PG.v hk2 hv h0
  have v2' : sk b (T1 1) (T1 8) + 1 < T2 8 := v2
  have v3' : T2 12 = T1 12 + 1 := v3
  obtain ⟨hk, hp, h3, h4, h5⟩ := h
  have hpl := hp.2.2.2.2.2.1
  have hp2 := PG.put (x := o) hk (hm.tr v1) (by rw [List.length_append]; show ((e.length + 1 : Nat) : Int) + 1 ≤ _; omega)
  have hne := opcl_ne hc
  rw [ho] at hne
  refine ⟨hp2.2, by omega, hk, ?_, by omega, by omega, fun lo cx sg O E S M => ?_⟩
  · rw [show o + 16 * 0 = o by omega]; exact hp2.1
  · rw [hh.2] at hc ho ⊢
    refine (h5 lo cx sg O E S M).tr ((q1c hc).tr ?_)
    rw [opl_1, List.append_nil, ho]
    have v4' : vfl b (T 1) (sk b (T 1) (sk b (T 1) (T1 8) + 1)) (T1 12) = 0 := by rw [← hh.2]; exact v4
    have v5' : T2 8 = vnd b (T 1) (sk b (T 1) (sk b (T 1) (T1 8) + 1)) := by rw [← hh.2]; exact v5
    refine (q0 v4').tr ((q1r (o := o)).tr ?_)
    rw [v5', v3', show opl o = [o] from if_neg hne, List.append_assoc, List.append_assoc, List.append_assoc]
    exact Q.rfl_
theorem SMI.st (hk : RK b T l) (ht : TRMP b T T2 g g2 l l2 e) (h0 : T2 9 = 0) : SMI b T T2 g g2 l l2 e := by
  obtain ⟨a1, a2, a3, a4, a5⟩ := ht.2.2.1 h0
  exact ⟨hk, a1, a2, a3, a4, fun cx sg O E S M => a5 (-1) cx sg O E S M⟩
theorem SUMP.f0 (ht : TRMP b T T2 g g2 l l2 e) (h0 : ¬ T2 9 = 0) : SUMP b T T2 g g2 l l2 [] := ⟨ht.1, ht.2.1, fun r => absurd r h0, fun r cx sg O E S M => ht.2.2.2 r (-1) cx sg O E S M⟩
theorem SMI.hd (h : SMI b T T1 g g1 l l1 e) : (TPO b (T1 1) ∧ (0 ≤ T1 8 ∧ T1 8 ≤ T1 1)) ∧ T1 1 = T 1 ∧ sk b (T1 1) (T1 8) = T1 8 := ⟨⟨h.2.1.2.2.1.1, h.2.1.2.2.1.2.1⟩, h.2.1.1.1 1 (by omega), by rw [h.2.1.1.1 1 (by omega)]; exact h.2.2.1⟩
theorem SMI.en (h : SMI b T T1 g g1 l l1 e) (hc : ¬ (opc (tc b (T1 1) (T1 8)) = 2 ∨ opc (tc b (T1 1) (T1 8)) = 3)) : SUMP b T T1 g g1 l l1 e := by
  have hh := h.hd
  obtain ⟨hk, hp, hs, h3, h4, h5⟩ := h
  have h9 : T1 9 = 0 := hp.2.2.1.2.2.1
  rw [hh.2.1] at hc
  refine ⟨hp.1, by omega, fun _ => ⟨hp, hs, h3, h4, fun cx sg O E S M => ?_⟩, fun r => absurd h9 r⟩
  refine (h5 cx sg O E S M).tr ((q2n hc).tr ?_)
  rw [opl_1, List.append_nil]
  exact Q.rfl_
theorem SMI.rk (h : SMI b T T1 g g1 l l1 e) (hc : T1 8 < T1 1) : RK b (xup T1 8 (T1 8 + 1)) l1 := (h.2.1.mv (p := T1 8 + 1) (by omega) (by omega)).2.2.1
theorem SMI.vf (h : SMI b T T1 g g1 l l1 e) (hc : opc (tc b (T1 1) (T1 8)) = 2 ∨ opc (tc b (T1 1) (T1 8)) = 3) (hv : TRMP b (xup T1 8 (T1 8 + 1)) T2 g1 g2 l1 l2 e2) (h0 : ¬ T2 9 = 0) : SUMP b T T2 g g2 l l2 [] := by
  have hh := h.hd
  have hlt := opc_lt (b := b) (n := T1 1) (p := T1 8) (by omega)
  have hm := h.2.1.mv (p := T1 8 + 1) (by omega) (by omega)
  obtain ⟨hk, hp, hs, h3, h4, h5⟩ := h
  refine ⟨hm.1.tr hv.1, hv.2.1, fun r => absurd r h0, fun _ cx sg O E S M => ?_⟩
  have hq := hv.2.2.2 h0 (opc (tc b (T1 1) (T1 8))) cx sg O (E ++ e) S M
  have hq2 : Q b (T1 1) (0, opc (tc b (T1 1) (T1 8)), -1, cx, sg, T1 8 + 1, T1 12, O, E ++ e, S, M) (sX (T2 9)) := hq
  rw [hh.2.1] at hq2 hc
  refine (h5 cx sg O E S M).tr ((q2c hc).tr ?_)
  rw [opl_1, List.append_nil]
  exact hq2
theorem SMI.vo {o : Int} (h : SMI b T T1 g g1 l l1 e) (hc : opc (tc b (T1 1) (T1 8)) = 2 ∨ opc (tc b (T1 1) (T1 8)) = 3) (ho : opc (tc b (T1 1) (T1 8)) = o) (hv : TRMP b (xup T1 8 (T1 8 + 1)) T2 g1 g2 l1 l2 e2) (h0 : T2 9 = 0) : ((0 ≤ T2 11 ∧ T2 11 < 6) ∧ (0 ≤ l2 (T2 11) ∧ l2 (T2 11) < 400)) ∧ T1 8 < T2 8 ∧ SMI b T T2 g (xup g2 (400 * T2 11 + l2 (T2 11)) (o + 16 * 0)) l (xup l2 (T2 11) (l2 (T2 11) + 1)) ((e ++ e2) ++ [o]) := by
  have hh := h.hd
  have hlt := opc_lt (b := b) (n := T1 1) (p := T1 8) (by omega)
  have hm := h.2.1.mv (p := T1 8 + 1) (by omega) (by omega)
  obtain ⟨v1, v2, v3, v4, v5⟩ := hv.2.2.1 h0
  have v3' : T1 8 + 1 < T2 8 := v3
  have v4' : T1 12 < T2 12 := v4
  have v2' : sk b (T1 1) (T2 8) = T2 8 := v2
  obtain ⟨hk, hp, hs, h3, h4, h5⟩ := h
  have hpl := hp.2.2.2.2.2.1
  have hpl2 : (e2.length : Int) ≤ T2 8 - (T1 8 + 1) := v1.2.2.2.2.2.1
  have hp2 := PG.put (x := o) hk (hm.tr v1) (by rw [List.length_append]; omega)
  refine ⟨hp2.2, by omega, hk, ?_, by rw [← hh.2.1]; exact v2', by omega, by omega, fun cx sg O E S M => ?_⟩
  · rw [show o + 16 * 0 = o by omega]; exact hp2.1
  · have hq2 : Q b (T1 1) (0, o, -1, cx, sg, T1 8 + 1, T1 12, O, E ++ e, S, M) (2, o, -1, cx, sg, T2 8, T2 12, O, (E ++ e) ++ e2, S, M) := v5 o cx sg O (E ++ e) S M
    rw [hh.2.1] at hq2 hc ho
    refine (h5 cx sg O E S M).tr ((q2c hc).tr ?_)
    rw [opl_1, List.append_nil, ho]
    refine hq2.tr ((q2r (o := o) (ti2 := -1)).tr ?_)
    rw [show opl o = [o] from if_neg (by omega), List.append_assoc, List.append_assoc, List.append_assoc]
    exact Q.rfl_
theorem opc_b {n q : Int} (hT : TPO b n) (q0 : 0 ≤ q) : (q < n → -128 ≤ b q ∧ b q ≤ 127) ∧ (tc b n q = 42 ↔ q < n ∧ b q = 42) ∧ (tc b n q = 47 ↔ q < n ∧ b q = 47) ∧ (tc b n q = 37 ↔ q < n ∧ b q = 37) ∧ (tc b n q = 43 ↔ q < n ∧ b q = 43) ∧ (tc b n q = 45 ↔ q < n ∧ b q = 45) ∧ (tc b n q = 61 ↔ q < n ∧ b q = 61) := by
  by_cases h : q < n
  · have := tc_val hT q0 h
    have h2 := hT.2 q q0 h
    refine ⟨fun _ => h2, ?_, ?_, ?_, ?_, ?_, ?_⟩ <;> (constructor <;> intro r <;> omega)
  · have := tc_end (b := b) h
    refine ⟨fun r => absurd r h, ?_, ?_, ?_, ?_, ?_, ?_⟩ <;> (constructor <;> intro r <;> omega)
theorem opcl_i {c : Int} : opcl (opc c) = true ↔ (c = 42 ∨ c = 47 ∨ c = 37) := by
  unfold opcl opc
  rw [decide_eq_true_eq]
  constructor
  · intro h
    by_cases c1 : c = 43
    · rw [if_pos c1] at h; omega
    · rw [if_neg c1] at h
      by_cases c2 : c = 45
      · rw [if_pos c2] at h; omega
      · rw [if_neg c2] at h
        by_cases c3 : c = 42
        · exact Or.inl c3
        · rw [if_neg c3] at h
          by_cases c4 : c = 47
          · exact Or.inr (Or.inl c4)
          · rw [if_neg c4] at h
            by_cases c5 : c = 37
            · exact Or.inr (Or.inr c5)
            · rw [if_neg c5] at h; omega
  · rintro (h | h | h) <;> (subst h; decide)
theorem opc_23 {c : Int} : (opc c = 2 ∨ opc c = 3) ↔ (c = 43 ∨ c = 45) := by
  unfold opc
  constructor
  · intro h
    by_cases c1 : c = 43
    · exact Or.inl c1
    · rw [if_neg c1] at h
      by_cases c2 : c = 45
      · exact Or.inr c2
      · rw [if_neg c2] at h
        (repeat' split at h) <;> omega
  · rintro (h | h) <;> (subst h; decide)
end
