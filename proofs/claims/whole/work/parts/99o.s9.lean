section
variable {b T T1 T2 T3 T4 g g1 g2 g3 g4 l l1 l2 l3 l4 R R1 R2 R3 : Int → Int} {e e1 e2 e3 : List Int}
def TSI (b T T1 g g1 l l1 R1 : Int → Int) (e : List Int) : Prop := RT b T1 l1 R1 ∧ RFr T T1 g g1 l l1 ∧ T 8 ≤ T1 8 ∧ WR T g g1 l l1 e ∧ ∀ S M, Q b (T 1) (4, -1, -1, 0, 0, T 8, T 12, [], [], S, M) (4, -1, -1, 0, 0, T1 8, T1 12, OL R1 T1, e, S, M)
def TSK (b T T1 g g1 l l1 R1 : Int → Int) (e : List Int) : Prop := RT b T1 l1 R1 ∧ RFr T T1 g g1 l l1 ∧ T 8 < T1 8 ∧ (WR T g g1 l l1 e ∧ e ≠ []) ∧ sk b (T 1) (T1 8) = T1 8 ∧ ¬ (OL R1 T1).headD 0 = 11 ∧ (¬ tc b (T 1) (T1 8) = 93 ∨ ¬ ins9 (OL R1 T1) = true) ∧ ∀ S M, Q b (T 1) (4, -1, -1, 0, 0, T 8, T 12, [], [], S, M) (5, -1, -1, 0, 0, T1 8, T1 12, OL R1 T1, e, S, M)
/-- a test was read -/
def TSP (b T T2 g g2 l l2 : Int → Int) (e : List Int) : Prop := RFr T T2 g g2 l l2 ∧ (0 ≤ T2 9 ∧ T2 9 ≤ 10000) ∧ (T2 9 = 0 → RK b T2 l2 ∧ sk b (T 1) (T2 8) = T2 8 ∧ T 8 < T2 8 ∧ (WR T g g2 l l2 e ∧ e ≠ []) ∧ ∀ S M, Q b (T 1) (4, -1, -1, 0, 0, T 8, T 12, [], [], S, M) (6, -1, -1, 0, 0, T2 8, T2 12, [], [], [], M ++ [(S, e)])) ∧ (¬ T2 9 = 0 → ∀ S M, Q b (T 1) (4, -1, -1, 0, 0, T 8, T 12, [], [], S, M) (sX (T2 9)))
theorem RFr.of {h1 : Int → Int} (h : RFr T T1 g g1 l l1) (e : ∀ j, ¬ (j = 8 ∨ j = 9 ∨ j = 10 ∨ j = 12 ∨ j = 13 ∨ j = 16) → h1 j = T1 j) : RFr T h1 g g1 l l1 := ⟨fun j hj => (e j hj).trans (h.1 j hj), h.2⟩
theorem TSI.st (h : RK b T l) : TSI b T (xup (xup T 13 0) 16 0) g g l l R [] := by
  obtain ⟨k1, k2, k3, k4, k5, k6, k7⟩ := h
  refine ⟨⟨⟨k1, k2, k3, k4, k5, k6, k7⟩, rfl, by show (0 : Int) ≤ 10; decide, trivial, ⟨by show (0 : Int) ≤ 0; decide, by show l (T 11) + 0 ≤ T 8; omega⟩⟩, ⟨fun j hj => by rw [xup_ne _ _ (by omega), xup_ne _ _ (by omega)], fun _ _ => rfl, fun _ _ => rfl⟩, Int.le_refl _, WR.rf, fun S M => Q.rfl_⟩
theorem TSI.ff (h : TSI b T T1 g g1 l l1 R1 e) (hf : FCP b T1 T2 g1 g2 l1 l2 R1 R2 e2) (h0 : ¬ T2 9 = 0) : TSP b T T2 g g2 l l2 [] := by
  obtain ⟨h1, h2, h3, h4, h5⟩ := h
  have e1 := h2.1 1 (by omega)
  refine ⟨h2.tr hf.1, hf.2.1, fun r => absurd r h0, fun _ S M => (h5 S M).tr ?_⟩
  rw [← e1]
  exact hf.2.2.2 h0 _ S M
theorem TSI.fc (h : TSI b T T1 g g1 l l1 R1 e) (hf : FCP b T1 T2 g1 g2 l1 l2 R1 R2 e2) (h0 : T2 9 = 0) (hc : CLO b R2 T2 T3 g2 g3 l2 l3 e3) : TSK b T T3 g g3 l l3 R2 ((e ++ e2) ++ e3) := by
  obtain ⟨h1, h2, h3, h4, h5⟩ := h
  obtain ⟨f1, f2, f3, f4, f5⟩ := hf.2.2.1 h0
  obtain ⟨⟨c1, c2, c3, c4, c5, c6, c7⟩, c8, c9⟩ := hc
  have e1 := h2.1 1 (by omega)
  have e1' := hf.1.1 1 (by omega)
  have e11 := h2.1 11 (by omega)
  have e11' := hf.1.1 11 (by omega)
  refine ⟨c1, (h2.tr hf.1).tr c2, by omega, ⟨(h4.tr f4.1 e11).tr c5 (by omega), fun r => f4.2 (List.append_eq_nil_iff.mp (List.append_eq_nil_iff.mp r).1).2⟩, by rw [← e1, ← e1']; exact c8, c6, by rw [← e1, ← e1']; exact c9, fun S M => (h5 S M).tr ?_⟩
  have q1 := f5 e S M
  have q2 := c7 (e ++ e2) S M
  rw [e1'] at q2
  rw [← e1]
  exact q1.tr q2
theorem TSK.hd (h : TSK b T T1 g g1 l l1 R1 e) : (TPO b (T1 1) ∧ (0 ≤ T1 8 ∧ T1 8 ≤ T1 1)) ∧ sk b (T1 1) (T1 8) = T1 8 ∧ T1 1 = T 1 ∧ T1 9 = 0 := by
  have e1 := h.2.1.1 1 (by omega)
  exact ⟨h.1.ok, by rw [e1]; exact h.2.2.2.2.1, e1, h.1.1.2.2.1⟩
theorem STP.len {k : Int} (hs : STP k b R T T1 g g1 l l1) (h0 : 0 ≤ T 16) : l1 (T1 11) + T1 16 = l (T 11) + T 16 := by
  obtain ⟨s1, s2, s3, s4, s5, s6⟩ := hs
  have e11 := s1.1 11 (by omega)
  have hl := OL_len (R := R) (T := T)
  have hl1 := OL_len (R := R) (T := T1)
  have hsp := spop_srst (k := k) (OL R T)
  rw [s4] at hl1
  have h01 := s3.2.2.2.2.1
  rw [e11, s6]
  omega
theorem TSK.jn {x k : Int} (h : TSK b T T1 g g1 l l1 R1 e) (hx : x = 12 ∨ x = 13) (hk : sth x = k) (hw : tw b (T1 1) (T1 8) = x + 4) : RT b (xup T1 8 (le_ b (T1 1) (T1 8))) l1 R1 ∧ (1 ≤ k ∧ k ≤ 3) ∧ ∀ (T2 g2 l2 : Int → Int), STP k b R1 (xup T1 8 (le_ b (T1 1) (T1 8))) T2 g1 g2 l1 l2 → (0 ≤ T2 16 ∧ T2 16 < 400) ∧ T1 8 < T2 8 ∧ ∃ e2, TSI b T (xup T2 16 (T2 16 + 1)) g g2 l l2 (xup R1 (T2 16) x) e2 := by
  have hh := h.hd
  obtain ⟨h1, h2, h3, h4, h5, h6, h7, h8⟩ := h
  have hlt := tw_lt0 (b := b) (n := T1 1) (q := T1 8) (by omega) hh.1.2.2
  have hn := hh.1.1.1
  have h16 := h1.2.2.2.2
  have hk13 : 1 ≤ k ∧ k ≤ 3 := by rcases hx with rfl | rfl <;> (subst hk; decide)
  refine ⟨h1.mv (by omega) hlt.2, hk13, fun T2 g2 l2 hs => ?_⟩
  have hlen : l2 (T2 11) + T2 16 = l1 (T1 11) + T1 16 := hs.len h16.1
  obtain ⟨s1, s2, s3, s4, s5, s6⟩ := hs
  have e8 : T2 8 = le_ b (T1 1) (T1 8) := s2.1
  have e12 : T2 12 = T1 12 := s2.2
  have e1 : T2 1 = T1 1 := s1.1 1 (by omega)
  have e11 : T2 11 = T1 11 := s1.1 11 (by omega)
  have e11' := h2.1 11 (by omega)
  have s4' : OL R1 T2 = srst k (OL R1 T1) := s4
  have hb0 := s3.2.2.2.2
  have hl0 := s3.1.2.2.2.2.2.1
  have hp := OL_push (R := R1) (T := T2) (T1 := xup T2 16 (T2 16 + 1)) (x := x) hb0.1 rfl
  have hm : MV T2 (xup T2 16 (T2 16 + 1)) (T2 8) (T2 13) (T2 16 + 1) := ⟨rfl, rfl, rfl, fun j hj => by rw [xup_ne _ _ (by omega)]⟩
  have hd : dpo (x :: OL R1 T2) = dpo (OL R1 T2) := by
    show (if x = 11 ∨ x = 91 then 1 else 0) + dpo (OL R1 T2) = _
    rw [if_neg (by omega)]; omega
  have w1 : WR T1 g1 g2 l1 l2 (spop k (OL R1 T1)) := ⟨s5, s6⟩
  have hwq : wfs (x :: OL R1 T2) 0 ∧ ∀ S M, Q b (T1 1) (5, -1, -1, 0, 0, T1 8, T1 12, OL R1 T1, e, S, M) (4, -1, -1, 0, 0, le_ b (T1 1) (T1 8), T1 12, x :: srst k (OL R1 T1), e ++ spop k (OL R1 T1), S, M) := by
    rw [s4']
    rcases hx with rfl | rfl
    · have hk2 : k = 2 := hk.symm
      subst hk2
      have hq := fun S M => q5and (b := b) (n := T1 1) (p := T1 8) (k := T1 12) (S := S) (M := M) h1.2.2.2.1 h6 (by rw [hh.2.1]; omega)
      refine ⟨⟨(by decide : 0 < 1), (hq [] []).1⟩, fun S M => ?_⟩
      have := (hq S M).2 e
      rw [hh.2.1] at this
      exact this
    · have hk2 : k = 1 := hk.symm
      subst hk2
      have hq := fun S M => q5end (b := b) (n := T1 1) (p := T1 8) (k := T1 12) (S := S) (M := M) h1.2.2.2.1 h6
      refine ⟨⟨(by decide : 0 < 2), (hq [] []).2.1⟩, fun S M => ?_⟩
      have := ((hq S M).2.2 e).1 (by rw [hh.2.1]; omega)
      rw [hh.2.1] at this
      exact this
  refine ⟨⟨hb0.1, by omega⟩, by omega, _, ⟨hm.rk s3.1 ⟨Int.le_refl _, s3.1.2.1.2⟩ (by omega), ?_, ?_, ?_, ?_⟩, ?_, by show T 8 ≤ T2 8; omega, h4.1.tr w1 e11', fun S M => (h8 S M).tr ?_⟩
  · rw [hp, hd]; exact s3.2.1
  · rw [hp, hd]; exact s3.2.2.1
  · rw [hp]; exact hwq.1
  · show 0 ≤ T2 16 + 1 ∧ l2 (T2 11) + (T2 16 + 1) ≤ T2 8; omega
  · refine RFr.of (h2.tr ⟨fun j hj => (s1.1 j hj).trans (xup_ne _ _ (by omega)), s1.2⟩) (fun j hj => xup_ne _ _ (by omega))
  · rw [hp, s4', ← hh.2.2.1]
    show Q b (T1 1) _ (4, -1, -1, 0, 0, T2 8, T2 12, _, _, S, M)
    rw [e8, e12]
    exact hwq.2 S M
theorem TSK.ok (h : TSK b T T1 g g1 l l1 R1 e) (h16 : ¬ tw b (T1 1) (T1 8) = 16) (h17 : ¬ tw b (T1 1) (T1 8) = 17) (hi : ¬ ins9 (OL R1 T1) = true) (hs : STP 1 b R1 T1 T2 g1 g2 l1 l2) : TSP b T T2 g g2 l l2 (e ++ spop 1 (OL R1 T1)) ∧ T2 9 = 0 := by
  have hh := h.hd
  obtain ⟨h1, h2, h3, h4, h5, h6, h7, h8⟩ := h
  obtain ⟨s1, s2, s3, s4, s5, s6⟩ := hs
  have e11' := h2.1 11 (by omega)
  have hq := fun S M => q5end (b := b) (n := T1 1) (p := T1 8) (k := T1 12) (S := S) (M := M) h1.2.2.2.1 h6
  have hr : srst 1 (OL R1 T1) = [] := by
    rcases (hq [] []).1 with ⟨r, _⟩ | ⟨t, _, r, _⟩
    · exact r
    · exact absurd r hi
  have h9 : T2 9 = 0 := s3.1.2.2.1
  refine ⟨⟨h2.tr s1, by omega, fun _ => ⟨s3.1, by rw [s2.1]; exact h5, by omega, ⟨h4.1.tr ⟨s5, s6⟩ e11', fun r => h4.2 (List.append_eq_nil_iff.mp r).1⟩, fun S M => (h8 S M).tr ?_⟩, fun r => absurd h9 r⟩, h9⟩
  have q1 := ((hq S M).2.2 e).2 (by rw [hh.2.1]; exact h16) (by rw [hh.2.1]; exact h17)
  rw [hh.2.1, hr] at q1
  rw [← hh.2.2.1, s2.1, s2.2]
  exact q1.tr q7d
theorem TSK.bd (h : TSK b T T1 g g1 l l1 R1 e) (h16 : ¬ tw b (T1 1) (T1 8) = 16) (h17 : ¬ tw b (T1 1) (T1 8) = 17) (hi : ins9 (OL R1 T1) = true) : TSP b T (xup (xup T1 8 (T1 8)) 9 (1 + 8 * T1 8 + 0)) g g1 l l1 [] ∧ ¬ (1 + 8 * T1 8 + 0 = 0) := by
  have hh := h.hd
  have hn := hh.1.1.1
  obtain ⟨h1, h2, h3, h4, h5, h6, h7, h8⟩ := h
  have hq := fun S M => q5end (b := b) (n := T1 1) (p := T1 8) (k := T1 12) (S := S) (M := M) h1.2.2.2.1 h6
  refine ⟨⟨RFr.of h2 (fun j hj => by rw [xup_ne _ _ (by omega), xup_ne _ _ (by omega)]), ⟨by show 0 ≤ 1 + 8 * T1 8 + 0; omega, by show 1 + 8 * T1 8 + 0 ≤ 10000; omega⟩, fun r => absurd (show 1 + 8 * T1 8 + 0 = 0 from r) (by omega), fun _ S M => (h8 S M).tr ?_⟩, by omega⟩
  have q1 := ((hq S M).2.2 e).2 (by rw [hh.2.1]; exact h16) (by rw [hh.2.1]; exact h17)
  rcases (hq S M).1 with ⟨_, r⟩ | ⟨t, t1, _⟩
  · rw [hi] at r; exact absurd r (by decide)
  · rw [hh.2.1, t1] at q1
    rw [← hh.2.2.1]
    refine q1.tr (q7f ?_)
    rcases h7 with r | r
    · rw [hh.2.2.1]; exact r
    · exact absurd hi r
end
set_option maxRecDepth 8000 in
theorem sg_174_0_r {d : Nat} {I : XI} {L : XL} {D : GD} {post : XQ}   (h : xR d 174 es_174 8 [xr (some 101), xi (1 : Int), xt 0] [] (xwr (xwr I 101 (16 : Int) (0 : Int)) 101 (13 : Int) (0 : Int)) L (gG D) 0 0 post) : xR d 174 es_174 0 [xr (some 101), xt 0, xt 0] [] I L (gG D) 0 0 post := xW_R (fun k => Nat.beq k 8 || Nat.beq k 11 || Nat.beq k 16 || Nat.beq k 19 || Nat.beq k 23 || Nat.beq k 33 || Nat.beq k 40 || Nat.beq k 43 || Nat.beq k 44 || Nat.beq k 59 || Nat.beq k 62 || Nat.beq k 68 || Nat.beq k 72) 8 _ _ _ _ _ _ _ _ _ _ _ _ h
set_option maxRecDepth 8000 in
theorem w_174_r {d : Nat} {I : XI} {L : XL} {D : GD} {post : XQ}    (hd : 0 ≤ d) (h : xR d 174 es_174 8 [xr (some 101), xi (1 : Int), xt 0] [] (xsc I 101 (xup (xup (I 101) (13 : Int) (0 : Int)) (16 : Int) (0 : Int))) L (gG D) 0 0 post) : xR d 174 es_174 0 [xr (some 101), xt 0, xt 0] [] I L (gG D) 0 0 post := sg_174_0_r  ((xR_memc h (funext fun i => (xpt (show (xup (xup (I 101) (16 : Int) (0 : Int)) (13 : Int) (0 : Int)) = (xup (xup (I 101) (13 : Int) (0 : Int)) (16 : Int) (0 : Int)) from by funext j; by_cases hj13 : j = 13; (subst hj13; rfl); by_cases hj16 : j = 16; (subst hj16; rfl); simp only [xup, if_neg hj13, if_neg hj16]) (fun h101_ => (by simp only [xsc_ne _ _ h101_, xwr_ne _ _ _ h101_])))) rfl))
set_option maxRecDepth 8000 in
theorem sg_174_8_r {d : Nat} {I : XI} {L : XL} {D : GD} {post : XQ}  {u1 : Int} {u2 : XV} (h : ((-2147483648 ≤ u1 ∧ u1 ≤ 2147483647) ∧ ((u1 = 0 → xR d 174 es_174 59 [xr (some 101), xi u1, u2] [xr (some 101)] I L (gG D) 0 0 post) ∧ (¬ u1 = 0 → xR d 174 es_174 11 [xr (some 101), xi u1, u2] [xr (some 101)] I L (gG D) 0 0 post)))) : xR d 174 es_174 8 [xr (some 101), xi u1, u2] [] I L (gG D) 0 0 post := xW_R (fun k => Nat.beq k 8 || Nat.beq k 11 || Nat.beq k 16 || Nat.beq k 19 || Nat.beq k 23 || Nat.beq k 33 || Nat.beq k 40 || Nat.beq k 43 || Nat.beq k 44 || Nat.beq k 59 || Nat.beq k 62 || Nat.beq k 68 || Nat.beq k 72) 3 _ _ _ _ _ _ _ _ _ _ _ _ h
set_option maxRecDepth 8000 in
theorem sg_174_60_r {d : Nat} {I : XI} {L : XL} {D : GD} {post : XQ}  {u1 : Int} {u2 : XV} {w0 : Int} (h : ((-2147483648 ≤ w0 ∧ w0 ≤ 2147483647) ∧ ((w0 = 0 → xR d 174 es_174 72 [xr (some 101), xi u1, u2] [xi (1 : Int), xr (some 101)] I L (gG D) 0 0 post) ∧ (¬ w0 = 0 → xR d 174 es_174 62 [xr (some 101), xi u1, u2] [xr (some 101)] I L (gG D) 0 0 post)))) : xR d 174 es_174 60 [xr (some 101), xi u1, u2] [xi w0] I L (gG D) 0 0 post := xW_R (fun k => Nat.beq k 8 || Nat.beq k 11 || Nat.beq k 16 || Nat.beq k 19 || Nat.beq k 23 || Nat.beq k 33 || Nat.beq k 40 || Nat.beq k 43 || Nat.beq k 44 || Nat.beq k 59 || Nat.beq k 62 || Nat.beq k 68 || Nat.beq k 72) 3 _ _ _ _ _ _ _ _ _ _ _ _ h
set_option maxRecDepth 8000 in
theorem sg_174_73_r {d : Nat} {I : XI} {L : XL} {D : GD} {post : XQ}  {u1 : Int} {u2 : XV} (h : (((1 : Int) = 0 ∨ (1 : Int) = 1) ∧ post (some (xi (1 : Int))) I L (gG D))) : xR d 174 es_174 73 [xr (some 101), xi u1, u2] [] I L (gG D) 0 0 post := xW_R (fun k => Nat.beq k 8 || Nat.beq k 11 || Nat.beq k 16 || Nat.beq k 19 || Nat.beq k 23 || Nat.beq k 33 || Nat.beq k 40 || Nat.beq k 43 || Nat.beq k 44 || Nat.beq k 59 || Nat.beq k 62 || Nat.beq k 68 || Nat.beq k 72) 2 _ _ _ _ _ _ _ _ _ _ _ _ h
set_option maxRecDepth 8000 in
theorem sg_174_63_r {d : Nat} {I : XI} {L : XL} {D : GD} {post : XQ}  {u1 : Int} {u2 : XV} {w0 : Int} (h : xR d 174 es_174 68 [xr (some 101), xi u1, u2] [xi (I 101 (8 : Int)), xi (0 : Int), xr (some 101)] I L (gG D) 0 0 post) : xR d 174 es_174 63 [xr (some 101), xi u1, u2] [xi w0] I L (gG D) 0 0 post := xW_R (fun k => Nat.beq k 8 || Nat.beq k 11 || Nat.beq k 16 || Nat.beq k 19 || Nat.beq k 23 || Nat.beq k 33 || Nat.beq k 40 || Nat.beq k 43 || Nat.beq k 44 || Nat.beq k 59 || Nat.beq k 62 || Nat.beq k 68 || Nat.beq k 72) 5 _ _ _ _ _ _ _ _ _ _ _ _ h
set_option maxRecDepth 8000 in
theorem sg_174_69_r {d : Nat} {I : XI} {L : XL} {D : GD} {post : XQ}  {u1 : Int} {u2 : XV} {w0 : Int} (h : ((w0 = 0 ∨ w0 = 1) ∧ post (some (xi w0)) I L (gG D))) : xR d 174 es_174 69 [xr (some 101), xi u1, u2] [xi w0] I L (gG D) 0 0 post := xW_R (fun k => Nat.beq k 8 || Nat.beq k 11 || Nat.beq k 16 || Nat.beq k 19 || Nat.beq k 23 || Nat.beq k 33 || Nat.beq k 40 || Nat.beq k 43 || Nat.beq k 44 || Nat.beq k 59 || Nat.beq k 62 || Nat.beq k 68 || Nat.beq k 72) 1 _ _ _ _ _ _ _ _ _ _ _ _ h
set_option maxRecDepth 8000 in
theorem sg_174_12_r {d : Nat} {I : XI} {L : XL} {D : GD} {post : XQ}  {u1 : Int} {u2 : XV} {w0 : Int} (h : ((-2147483648 ≤ w0 ∧ w0 ≤ 2147483647) ∧ ((¬ w0 = 0 → xR d 174 es_174 16 [xr (some 101), xi u1, u2] [xr (some 101)] I L (gG D) 0 0 post) ∧ (w0 = 0 → (((0 : Int) = 0 ∨ (0 : Int) = 1) ∧ post (some (xi (0 : Int))) I L (gG D)))))) : xR d 174 es_174 12 [xr (some 101), xi u1, u2] [xi w0] I L (gG D) 0 0 post := xW_R (fun k => Nat.beq k 8 || Nat.beq k 11 || Nat.beq k 16 || Nat.beq k 19 || Nat.beq k 23 || Nat.beq k 33 || Nat.beq k 40 || Nat.beq k 43 || Nat.beq k 44 || Nat.beq k 59 || Nat.beq k 62 || Nat.beq k 68 || Nat.beq k 72) 3 _ _ _ _ _ _ _ _ _ _ _ _ h
set_option maxRecDepth 8000 in
theorem sg_174_17_r {d : Nat} {I : XI} {L : XL} {D : GD} {post : XQ}  {u1 : Int} {u2 : XV} (h : xR d 174 es_174 19 [xr (some 101), xi u1, u2] [xl (Int64.ofInt 6385252), xr (some 101)] I L (gG D) 0 0 post) : xR d 174 es_174 17 [xr (some 101), xi u1, u2] [] I L (gG D) 0 0 post := xW_R (fun k => Nat.beq k 8 || Nat.beq k 11 || Nat.beq k 16 || Nat.beq k 19 || Nat.beq k 23 || Nat.beq k 33 || Nat.beq k 40 || Nat.beq k 43 || Nat.beq k 44 || Nat.beq k 59 || Nat.beq k 62 || Nat.beq k 68 || Nat.beq k 72) 2 _ _ _ _ _ _ _ _ _ _ _ _ h
set_option maxRecDepth 8000 in
theorem sg_174_20_r {d : Nat} {I : XI} {L : XL} {D : GD} {post : XQ}  {u1 : Int} {u2 : XV} {w0 : Int} (h : ((-2147483648 ≤ w0 ∧ w0 ≤ 2147483647) ∧ ((¬ w0 = 0 → ((-2147483648 ≤ (1 : Int) ∧ (1 : Int) ≤ 2147483647) ∧ (((1 : Int) = 0 → xR d 174 es_174 8 [xr (some 101), xi (1 : Int), u2] [] I L (gG D) 0 0 post) ∧ (¬ (1 : Int) = 0 → xR d 174 es_174 33 [xr (some 101), xi (1 : Int), u2] [xl (Int64.ofInt 6385252), xr (some 101)] I L (gG D) 0 0 post)))) ∧ (w0 = 0 → xR d 174 es_174 23 [xr (some 101), xi u1, u2] [xl (Int64.ofInt 28530), xr (some 101)] I L (gG D) 0 0 post)))) : xR d 174 es_174 20 [xr (some 101), xi u1, u2] [xi w0] I L (gG D) 0 0 post := xW_R (fun k => Nat.beq k 8 || Nat.beq k 11 || Nat.beq k 16 || Nat.beq k 19 || Nat.beq k 23 || Nat.beq k 33 || Nat.beq k 40 || Nat.beq k 43 || Nat.beq k 44 || Nat.beq k 59 || Nat.beq k 62 || Nat.beq k 68 || Nat.beq k 72) 8 _ _ _ _ _ _ _ _ _ _ _ _ h
set_option maxRecDepth 8000 in
theorem sg_174_34_r {d : Nat} {I : XI} {L : XL} {D : GD} {post : XQ}  {u1 : Int} {u2 : XV} {w0 : Int} (h : ((-2147483648 ≤ w0 ∧ w0 ≤ 2147483647) ∧ ((w0 = 0 → xR d 174 es_174 40 [xr (some 101), xi u1, xi (13 : Int)] [xr (some 101)] I L (gG D) 0 0 post) ∧ (¬ w0 = 0 → xR d 174 es_174 40 [xr (some 101), xi u1, xi (12 : Int)] [xr (some 101)] I L (gG D) 0 0 post)))) : xR d 174 es_174 34 [xr (some 101), xi u1, u2] [xi w0] I L (gG D) 0 0 post := xW_R (fun k => Nat.beq k 8 || Nat.beq k 11 || Nat.beq k 16 || Nat.beq k 19 || Nat.beq k 23 || Nat.beq k 33 || Nat.beq k 40 || Nat.beq k 43 || Nat.beq k 44 || Nat.beq k 59 || Nat.beq k 62 || Nat.beq k 68 || Nat.beq k 72) 5 _ _ _ _ _ _ _ _ _ _ _ _ h
set_option maxRecDepth 8000 in
theorem sg_174_41_r {d : Nat} {I : XI} {L : XL} {D : GD} {post : XQ}  {u1 : Int} {u2 : Int} (h : xR d 174 es_174 43 [xr (some 101), xi u1, xi u2] [xi u2, xr (some 101)] I L (gG D) 0 0 post) : xR d 174 es_174 41 [xr (some 101), xi u1, xi u2] [] I L (gG D) 0 0 post := xW_R (fun k => Nat.beq k 8 || Nat.beq k 11 || Nat.beq k 16 || Nat.beq k 19 || Nat.beq k 23 || Nat.beq k 33 || Nat.beq k 40 || Nat.beq k 43 || Nat.beq k 44 || Nat.beq k 59 || Nat.beq k 62 || Nat.beq k 68 || Nat.beq k 72) 2 _ _ _ _ _ _ _ _ _ _ _ _ h
set_option maxRecDepth 8000 in
theorem sg_174_45_r {d : Nat} {I : XI} {L : XL} {D : GD} {post : XQ}  {u1 : Int} {u2 : Int} (h : ((0 ≤ (I 101 (16 : Int)) ∧ (I 101 (16 : Int)) < (400 : Int)) ∧ xR d 174 es_174 8 [xr (some 101), xi u1, xi u2] [] (xwr (xwr I 108 (I 101 (16 : Int)) u2) 101 (16 : Int) ((I 101 (16 : Int)) + (1 : Int))) L (gG D) 0 0 post)) : xR d 174 es_174 45 [xr (some 101), xi u1, xi u2] [] I L (gG D) 0 0 post := xW_R (fun k => Nat.beq k 8 || Nat.beq k 11 || Nat.beq k 16 || Nat.beq k 19 || Nat.beq k 23 || Nat.beq k 33 || Nat.beq k 40 || Nat.beq k 43 || Nat.beq k 44 || Nat.beq k 59 || Nat.beq k 62 || Nat.beq k 68 || Nat.beq k 72) 13 _ _ _ _ _ _ _ _ _ _ _ _ h
set_option maxRecDepth 8000 in
theorem sg_174_24_r {d : Nat} {I : XI} {L : XL} {D : GD} {post : XQ}  {u1 : Int} {u2 : XV} {w0 : Int} (h : ((-2147483648 ≤ w0 ∧ w0 ≤ 2147483647) ∧ ((w0 = 0 → ((-2147483648 ≤ (0 : Int) ∧ (0 : Int) ≤ 2147483647) ∧ (((0 : Int) = 0 → xR d 174 es_174 8 [xr (some 101), xi (0 : Int), u2] [] I L (gG D) 0 0 post) ∧ (¬ (0 : Int) = 0 → xR d 174 es_174 33 [xr (some 101), xi (0 : Int), u2] [xl (Int64.ofInt 6385252), xr (some 101)] I L (gG D) 0 0 post)))) ∧ (¬ w0 = 0 → ((-2147483648 ≤ (1 : Int) ∧ (1 : Int) ≤ 2147483647) ∧ (((1 : Int) = 0 → xR d 174 es_174 8 [xr (some 101), xi (1 : Int), u2] [] I L (gG D) 0 0 post) ∧ (¬ (1 : Int) = 0 → xR d 174 es_174 33 [xr (some 101), xi (1 : Int), u2] [xl (Int64.ofInt 6385252), xr (some 101)] I L (gG D) 0 0 post))))))) : xR d 174 es_174 24 [xr (some 101), xi u1, u2] [xi w0] I L (gG D) 0 0 post := xW_R (fun k => Nat.beq k 8 || Nat.beq k 11 || Nat.beq k 16 || Nat.beq k 19 || Nat.beq k 23 || Nat.beq k 33 || Nat.beq k 40 || Nat.beq k 43 || Nat.beq k 44 || Nat.beq k 59 || Nat.beq k 62 || Nat.beq k 68 || Nat.beq k 72) 8 _ _ _ _ _ _ _ _ _ _ _ _ h
set_option maxRecDepth 8000 in
theorem b_174_r {d : Nat} {I : XI} {L : XL} {D : GD} {post : XQ} {T1 g1 l1 R1 : Int → Int}  {mo : Int} {x1 : XV} (hd : 8 ≤ d) (h : (((-2147483648 ≤ mo ∧ mo ≤ 2147483647)) ∧ ((mo = 0 → (RT (I 102) T1 l1 R1 ∧ (((¬ (ins9 (OL R1 T1) = true) → ((RT (I 102) T1 l1 R1 ∧ (1 ≤ (1 : Int) ∧ (1 : Int) ≤ 3)) ∧ (∀ (e4775 : Int → Int) (e4776 : Int → Int) (e4777 : Int → Int), (STP (1 : Int) (I 102) R1 T1 e4775 g1 e4776 l1 e4777 → post (some (xi (1 : Int))) (xsc (xsc (xsc (xsc I 101 e4775) 103 e4776) 104 e4777) 108 R1) L (gG D))))) ∧ (ins9 (OL R1 T1) = true → ((TPO (I 102) (T1 (1 : Int)) ∧ (0 ≤ T1 (8 : Int) ∧ T1 (8 : Int) ≤ T1 (1 : Int))) ∧ (T1 (9 : Int) = 0 ∧ post (some (xi (xb (False)))) (xsc (xsc (xsc (xsc I 101 (xup (xup T1 (8 : Int) (sk (I 102) (T1 (1 : Int)) (T1 (8 : Int)))) (9 : Int) (1 + 8 * (sk (I 102) (T1 (1 : Int)) (T1 (8 : Int))) + (0 : Int)))) 103 g1) 104 l1) 108 R1) L (gG D)))))))) ∧ (¬ mo = 0 → (RT (I 102) T1 l1 R1 ∧ (∀ (e4780 : Int → Int) (e4781 : Int → Int) (e4782 : Int → Int) (e4783 : Int → Int) (e4784 : List Int), (FCP (I 102) T1 e4780 g1 e4781 l1 e4782 R1 e4783 e4784 → (((e4780 9 = 0 → (RT (I 102) e4780 e4782 e4783 ∧ (∀ (e4785 : Int → Int) (e4786 : Int → Int) (e4787 : Int → Int) (e4788 : List Int), (CLO (I 102) e4783 e4780 e4785 e4781 e4786 e4782 e4787 e4788 → (((TPO (I 102) (e4785 (1 : Int)) ∧ (0 ≤ e4785 (8 : Int) ∧ e4785 (8 : Int) ≤ e4785 (1 : Int))) ∧ (sk (I 102) (e4785 (1 : Int)) (e4785 (8 : Int))) = e4785 (8 : Int)) ∧ (((twd (I 102) (e4785 (1 : Int)) (e4785 (8 : Int)) (Int64.ofInt 6385252) = true → (((¬ (twd (I 102) (e4785 (1 : Int)) (e4785 (8 : Int)) (Int64.ofInt 6385252) = true) → ((TPO (I 102) (e4785 (1 : Int)) ∧ (0 ≤ e4785 (8 : Int) ∧ e4785 (8 : Int) ≤ e4785 (1 : Int))) ∧ ((-2147483648 ≤ (13 : Int) ∧ (13 : Int) ≤ 2147483647) ∧ ((RT (I 102) (xup e4785 (8 : Int) (le_ (I 102) (e4785 (1 : Int)) (e4785 (8 : Int)))) e4787 e4783 ∧ (1 ≤ (sth (13 : Int)) ∧ (sth (13 : Int)) ≤ 3)) ∧ (∀ (e4789 : Int → Int) (e4790 : Int → Int) (e4791 : Int → Int), (STP (sth (13 : Int)) (I 102) e4783 (xup e4785 (8 : Int) (le_ (I 102) (e4785 (1 : Int)) (e4785 (8 : Int)))) e4789 e4786 e4790 e4787 e4791 → (((0 ≤ (e4789 (16 : Int)) ∧ (e4789 (16 : Int)) < (400 : Int))) ∧ xR d 174 es_174 8 [xr (some 101), xi (1 : Int), xi (13 : Int)] [] (xsc (xsc (xsc (xsc I 101 (xup e4789 (16 : Int) ((e4789 (16 : Int)) + (1 : Int)))) 103 e4790) 104 e4791) 108 (xup e4783 (e4789 (16 : Int)) (13 : Int))) L (gG D) 0 0 post))))))) ∧ (twd (I 102) (e4785 (1 : Int)) (e4785 (8 : Int)) (Int64.ofInt 6385252) = true → ((TPO (I 102) (e4785 (1 : Int)) ∧ (0 ≤ e4785 (8 : Int) ∧ e4785 (8 : Int) ≤ e4785 (1 : Int))) ∧ ((-2147483648 ≤ (12 : Int) ∧ (12 : Int) ≤ 2147483647) ∧ ((RT (I 102) (xup e4785 (8 : Int) (le_ (I 102) (e4785 (1 : Int)) (e4785 (8 : Int)))) e4787 e4783 ∧ (1 ≤ (sth (12 : Int)) ∧ (sth (12 : Int)) ≤ 3)) ∧ (∀ (e4792 : Int → Int) (e4793 : Int → Int) (e4794 : Int → Int), (STP (sth (12 : Int)) (I 102) e4783 (xup e4785 (8 : Int) (le_ (I 102) (e4785 (1 : Int)) (e4785 (8 : Int)))) e4792 e4786 e4793 e4787 e4794 → (((0 ≤ (e4792 (16 : Int)) ∧ (e4792 (16 : Int)) < (400 : Int))) ∧ xR d 174 es_174 8 [xr (some 101), xi (1 : Int), xi (12 : Int)] [] (xsc (xsc (xsc (xsc I 101 (xup e4792 (16 : Int) ((e4792 (16 : Int)) + (1 : Int)))) 103 e4793) 104 e4794) 108 (xup e4783 (e4792 (16 : Int)) (12 : Int))) L (gG D) 0 0 post)))))))))) ∧ (¬ (twd (I 102) (e4785 (1 : Int)) (e4785 (8 : Int)) (Int64.ofInt 6385252) = true) → (((¬ (twd (I 102) (e4785 (1 : Int)) (e4785 (8 : Int)) (Int64.ofInt 28530) = true) → xR d 174 es_174 8 [xr (some 101), xi (0 : Int), x1] [] (xsc (xsc (xsc (xsc I 101 e4785) 103 e4786) 104 e4787) 108 e4783) L (gG D) 0 0 post) ∧ (twd (I 102) (e4785 (1 : Int)) (e4785 (8 : Int)) (Int64.ofInt 28530) = true → (((¬ (twd (I 102) (e4785 (1 : Int)) (e4785 (8 : Int)) (Int64.ofInt 6385252) = true) → ((TPO (I 102) (e4785 (1 : Int)) ∧ (0 ≤ e4785 (8 : Int) ∧ e4785 (8 : Int) ≤ e4785 (1 : Int))) ∧ ((-2147483648 ≤ (13 : Int) ∧ (13 : Int) ≤ 2147483647) ∧ ((RT (I 102) (xup e4785 (8 : Int) (le_ (I 102) (e4785 (1 : Int)) (e4785 (8 : Int)))) e4787 e4783 ∧ (1 ≤ (sth (13 : Int)) ∧ (sth (13 : Int)) ≤ 3)) ∧ (∀ (e4799 : Int → Int) (e4800 : Int → Int) (e4801 : Int → Int), (STP (sth (13 : Int)) (I 102) e4783 (xup e4785 (8 : Int) (le_ (I 102) (e4785 (1 : Int)) (e4785 (8 : Int)))) e4799 e4786 e4800 e4787 e4801 → (((0 ≤ (e4799 (16 : Int)) ∧ (e4799 (16 : Int)) < (400 : Int))) ∧ xR d 174 es_174 8 [xr (some 101), xi (1 : Int), xi (13 : Int)] [] (xsc (xsc (xsc (xsc I 101 (xup e4799 (16 : Int) ((e4799 (16 : Int)) + (1 : Int)))) 103 e4800) 104 e4801) 108 (xup e4783 (e4799 (16 : Int)) (13 : Int))) L (gG D) 0 0 post))))))) ∧ (twd (I 102) (e4785 (1 : Int)) (e4785 (8 : Int)) (Int64.ofInt 6385252) = true → ((TPO (I 102) (e4785 (1 : Int)) ∧ (0 ≤ e4785 (8 : Int) ∧ e4785 (8 : Int) ≤ e4785 (1 : Int))) ∧ ((-2147483648 ≤ (12 : Int) ∧ (12 : Int) ≤ 2147483647) ∧ ((RT (I 102) (xup e4785 (8 : Int) (le_ (I 102) (e4785 (1 : Int)) (e4785 (8 : Int)))) e4787 e4783 ∧ (1 ≤ (sth (12 : Int)) ∧ (sth (12 : Int)) ≤ 3)) ∧ (∀ (e4802 : Int → Int) (e4803 : Int → Int) (e4804 : Int → Int), (STP (sth (12 : Int)) (I 102) e4783 (xup e4785 (8 : Int) (le_ (I 102) (e4785 (1 : Int)) (e4785 (8 : Int)))) e4802 e4786 e4803 e4787 e4804 → (((0 ≤ (e4802 (16 : Int)) ∧ (e4802 (16 : Int)) < (400 : Int))) ∧ xR d 174 es_174 8 [xr (some 101), xi (1 : Int), xi (12 : Int)] [] (xsc (xsc (xsc (xsc I 101 (xup e4802 (16 : Int) ((e4802 (16 : Int)) + (1 : Int)))) 103 e4803) 104 e4804) 108 (xup e4783 (e4802 (16 : Int)) (12 : Int))) L (gG D) 0 0 post)))))))))))))))))))) ∧ (¬ (e4780 9 = 0) → post (some (xi (0 : Int))) (xsc (xsc (xsc (xsc I 101 e4780) 103 e4781) 104 e4782) 108 e4783) L (gG D))))))))))) : xR d 174 es_174 8 [xr (some 101), xi mo, x1] [] (xsc (xsc (xsc (xsc I 101 T1) 103 g1) 104 l1) 108 R1) L (gG D) 0 0 post := sg_174_8_r  (⟨h.1, ⟨fun q4814 => (xR_cF rfl rfl rfl (c_172_r (h.2.1 q4814).1) (by omega) (sg_174_60_r  ⟨(xb_rg _), ⟨fun q4778 => (xR_cQ rfl rfl rfl (c_166_r ((h.2.1 q4814).2.1 (xb_0 q4778)).1) (by omega) (fun _ _ _ _ hx4816 => by obtain ⟨e4775, e4776, e4777, hp4817, rfl, rfl, rfl, rfl⟩ := hx4816; exact (sg_174_73_r  ⟨(by decide), (xpost (((h.2.1 q4814).2.1 (xb_0 q4778)).2 e4775 e4776 e4777 hp4817) (funext fun i => (xpt rfl (fun h108_ => (xpt rfl (fun h104_ => (xpt rfl (fun h103_ => (xpt rfl (fun h101_ => (by simp only [xsc_ne _ _ h101_, xwr_ne _ _ _ h101_, xsc_ne _ _ h103_, xwr_ne _ _ _ h103_, xsc_ne _ _ h104_, xwr_ne _ _ _ h104_, xsc_ne _ _ h108_, xwr_ne _ _ _ h108_])))))))))) rfl)⟩))), fun q4779 => (xR_cF rfl rfl rfl (c_154 ((h.2.1 q4814).2.2 (xb_n0 q4779)).1) (by omega) (sg_174_63_r  (xR_cF rfl rfl rfl (c_153 ((h.2.1 q4814).2.2 (xb_n0 q4779)).2.1) (by omega) (sg_174_69_r  ⟨(xb_01 _), (xpost ((h.2.1 q4814).2.2 (xb_n0 q4779)).2.2 (funext fun i => (xpt rfl (fun h108_ => (xpt rfl (fun h104_ => (xpt rfl (fun h103_ => (xpt rfl (fun h101_ => (by simp only [xsc_ne _ _ h101_, xwr_ne _ _ _ h101_, xsc_ne _ _ h103_, xwr_ne _ _ _ h103_, xsc_ne _ _ h104_, xwr_ne _ _ _ h104_, xsc_ne _ _ h108_, xwr_ne _ _ _ h108_])))))))))) rfl)⟩))))⟩⟩)), fun q4815 => (xR_cQ rfl rfl rfl (c_171_r (h.2.2 q4815).1) (by omega) (fun _ _ _ _ hx4818 => by obtain ⟨e4780, e4781, e4782, e4783, e4784, hp4819, rfl, rfl, rfl, rfl⟩ := hx4818; exact (sg_174_12_r  ⟨(xb_rg _), ⟨fun q4812 => (xR_cQ rfl rfl rfl (c_173_r (((h.2.2 q4815).2 e4780 e4781 e4782 e4783 e4784 hp4819).1 (xb_n0 q4812)).1) (by omega) (fun _ _ _ _ hx4820 => by obtain ⟨e4785, e4786, e4787, e4788, hp4821, rfl, rfl, rfl, rfl⟩ := hx4820; exact (sg_174_17_r  (xR_cF rfl rfl rfl (c_157_s ((((h.2.2 q4815).2 e4780 e4781 e4782 e4783 e4784 hp4819).1 (xb_n0 q4812)).2 e4785 e4786 e4787 e4788 hp4821).1) (by omega) (sg_174_20_r  ⟨(xb_rg _), ⟨fun q4810 => ⟨(by decide), ⟨fun q4797 => absurd q4797 (by decide), fun _ => (xR_cF rfl rfl rfl (c_157_s ((((h.2.2 q4815).2 e4780 e4781 e4782 e4783 e4784 hp4819).1 (xb_n0 q4812)).2 e4785 e4786 e4787 e4788 hp4821).1) (by omega) (sg_174_34_r  ⟨(xb_rg _), ⟨fun q4795 => (xR_cF rfl rfl rfl (c_158 ((((((h.2.2 q4815).2 e4780 e4781 e4782 e4783 e4784 hp4819).1 (xb_n0 q4812)).2 e4785 e4786 e4787 e4788 hp4821).2.1 (xb_n0 q4810)).1 (xb_0 q4795)).1) (by omega) (sg_174_41_r  (xR_cF rfl rfl rfl (c_165_r ((((((h.2.2 q4815).2 e4780 e4781 e4782 e4783 e4784 hp4819).1 (xb_n0 q4812)).2 e4785 e4786 e4787 e4788 hp4821).2.1 (xb_n0 q4810)).1 (xb_0 q4795)).2.1) (by omega) (xR_cQ rfl rfl rfl (c_166_r ((((((h.2.2 q4815).2 e4780 e4781 e4782 e4783 e4784 hp4819).1 (xb_n0 q4812)).2 e4785 e4786 e4787 e4788 hp4821).2.1 (xb_n0 q4810)).1 (xb_0 q4795)).2.2.1) (by omega) (fun _ _ _ _ hx4822 => by obtain ⟨e4789, e4790, e4791, hp4823, rfl, rfl, rfl, rfl⟩ := hx4822; exact (sg_174_45_r  ⟨(((((((h.2.2 q4815).2 e4780 e4781 e4782 e4783 e4784 hp4819).1 (xb_n0 q4812)).2 e4785 e4786 e4787 e4788 hp4821).2.1 (xb_n0 q4810)).1 (xb_0 q4795)).2.2.2 e4789 e4790 e4791 hp4823).1, (xR_memc (((((((h.2.2 q4815).2 e4780 e4781 e4782 e4783 e4784 hp4819).1 (xb_n0 q4812)).2 e4785 e4786 e4787 e4788 hp4821).2.1 (xb_n0 q4810)).1 (xb_0 q4795)).2.2.2 e4789 e4790 e4791 hp4823).2 (funext fun i => (xpt rfl (fun h108_ => (xpt rfl (fun h104_ => (xpt rfl (fun h103_ => (xpt rfl (fun h101_ => (by simp only [xsc_ne _ _ h101_, xwr_ne _ _ _ h101_, xsc_ne _ _ h103_, xwr_ne _ _ _ h103_, xsc_ne _ _ h104_, xwr_ne _ _ _ h104_, xsc_ne _ _ h108_, xwr_ne _ _ _ h108_])))))))))) rfl)⟩)))))), fun q4796 => (xR_cF rfl rfl rfl (c_158 ((((((h.2.2 q4815).2 e4780 e4781 e4782 e4783 e4784 hp4819).1 (xb_n0 q4812)).2 e4785 e4786 e4787 e4788 hp4821).2.1 (xb_n0 q4810)).2 (xb_n0 q4796)).1) (by omega) (sg_174_41_r  (xR_cF rfl rfl rfl (c_165_r ((((((h.2.2 q4815).2 e4780 e4781 e4782 e4783 e4784 hp4819).1 (xb_n0 q4812)).2 e4785 e4786 e4787 e4788 hp4821).2.1 (xb_n0 q4810)).2 (xb_n0 q4796)).2.1) (by omega) (xR_cQ rfl rfl rfl (c_166_r ((((((h.2.2 q4815).2 e4780 e4781 e4782 e4783 e4784 hp4819).1 (xb_n0 q4812)).2 e4785 e4786 e4787 e4788 hp4821).2.1 (xb_n0 q4810)).2 (xb_n0 q4796)).2.2.1) (by omega) (fun _ _ _ _ hx4824 => by obtain ⟨e4792, e4793, e4794, hp4825, rfl, rfl, rfl, rfl⟩ := hx4824; exact (sg_174_45_r  ⟨(((((((h.2.2 q4815).2 e4780 e4781 e4782 e4783 e4784 hp4819).1 (xb_n0 q4812)).2 e4785 e4786 e4787 e4788 hp4821).2.1 (xb_n0 q4810)).2 (xb_n0 q4796)).2.2.2 e4792 e4793 e4794 hp4825).1, (xR_memc (((((((h.2.2 q4815).2 e4780 e4781 e4782 e4783 e4784 hp4819).1 (xb_n0 q4812)).2 e4785 e4786 e4787 e4788 hp4821).2.1 (xb_n0 q4810)).2 (xb_n0 q4796)).2.2.2 e4792 e4793 e4794 hp4825).2 (funext fun i => (xpt rfl (fun h108_ => (xpt rfl (fun h104_ => (xpt rfl (fun h103_ => (xpt rfl (fun h101_ => (by simp only [xsc_ne _ _ h101_, xwr_ne _ _ _ h101_, xsc_ne _ _ h103_, xwr_ne _ _ _ h103_, xsc_ne _ _ h104_, xwr_ne _ _ _ h104_, xsc_ne _ _ h108_, xwr_ne _ _ _ h108_])))))))))) rfl)⟩))))))⟩⟩))⟩⟩, fun q4811 => (xR_cF rfl rfl rfl (c_157_s ((((h.2.2 q4815).2 e4780 e4781 e4782 e4783 e4784 hp4819).1 (xb_n0 q4812)).2 e4785 e4786 e4787 e4788 hp4821).1) (by omega) (sg_174_24_r  ⟨(xb_rg _), ⟨fun q4808 => ⟨(by decide), ⟨fun _ => (xR_memc ((((((h.2.2 q4815).2 e4780 e4781 e4782 e4783 e4784 hp4819).1 (xb_n0 q4812)).2 e4785 e4786 e4787 e4788 hp4821).2.2 (xb_0 q4811)).1 (xb_0 q4808)) (funext fun i => (xpt rfl (fun h108_ => (xpt rfl (fun h104_ => (xpt rfl (fun h103_ => (xpt rfl (fun h101_ => (by simp only [xsc_ne _ _ h101_, xwr_ne _ _ _ h101_, xsc_ne _ _ h103_, xwr_ne _ _ _ h103_, xsc_ne _ _ h104_, xwr_ne _ _ _ h104_, xsc_ne _ _ h108_, xwr_ne _ _ _ h108_])))))))))) rfl), fun q4798 => absurd q4798 (by decide)⟩⟩, fun q4809 => ⟨(by decide), ⟨fun q4807 => absurd q4807 (by decide), fun _ => (xR_cF rfl rfl rfl (c_157_s ((((h.2.2 q4815).2 e4780 e4781 e4782 e4783 e4784 hp4819).1 (xb_n0 q4812)).2 e4785 e4786 e4787 e4788 hp4821).1) (by omega) (sg_174_34_r  ⟨(xb_rg _), ⟨fun q4805 => (xR_cF rfl rfl rfl (c_158 (((((((h.2.2 q4815).2 e4780 e4781 e4782 e4783 e4784 hp4819).1 (xb_n0 q4812)).2 e4785 e4786 e4787 e4788 hp4821).2.2 (xb_0 q4811)).2 (xb_n0 q4809)).1 (xb_0 q4805)).1) (by omega) (sg_174_41_r  (xR_cF rfl rfl rfl (c_165_r (((((((h.2.2 q4815).2 e4780 e4781 e4782 e4783 e4784 hp4819).1 (xb_n0 q4812)).2 e4785 e4786 e4787 e4788 hp4821).2.2 (xb_0 q4811)).2 (xb_n0 q4809)).1 (xb_0 q4805)).2.1) (by omega) (xR_cQ rfl rfl rfl (c_166_r (((((((h.2.2 q4815).2 e4780 e4781 e4782 e4783 e4784 hp4819).1 (xb_n0 q4812)).2 e4785 e4786 e4787 e4788 hp4821).2.2 (xb_0 q4811)).2 (xb_n0 q4809)).1 (xb_0 q4805)).2.2.1) (by omega) (fun _ _ _ _ hx4826 => by obtain ⟨e4799, e4800, e4801, hp4827, rfl, rfl, rfl, rfl⟩ := hx4826; exact (sg_174_45_r  ⟨((((((((h.2.2 q4815).2 e4780 e4781 e4782 e4783 e4784 hp4819).1 (xb_n0 q4812)).2 e4785 e4786 e4787 e4788 hp4821).2.2 (xb_0 q4811)).2 (xb_n0 q4809)).1 (xb_0 q4805)).2.2.2 e4799 e4800 e4801 hp4827).1, (xR_memc ((((((((h.2.2 q4815).2 e4780 e4781 e4782 e4783 e4784 hp4819).1 (xb_n0 q4812)).2 e4785 e4786 e4787 e4788 hp4821).2.2 (xb_0 q4811)).2 (xb_n0 q4809)).1 (xb_0 q4805)).2.2.2 e4799 e4800 e4801 hp4827).2 (funext fun i => (xpt rfl (fun h108_ => (xpt rfl (fun h104_ => (xpt rfl (fun h103_ => (xpt rfl (fun h101_ => (by simp only [xsc_ne _ _ h101_, xwr_ne _ _ _ h101_, xsc_ne _ _ h103_, xwr_ne _ _ _ h103_, xsc_ne _ _ h104_, xwr_ne _ _ _ h104_, xsc_ne _ _ h108_, xwr_ne _ _ _ h108_])))))))))) rfl)⟩)))))), fun q4806 => (xR_cF rfl rfl rfl (c_158 (((((((h.2.2 q4815).2 e4780 e4781 e4782 e4783 e4784 hp4819).1 (xb_n0 q4812)).2 e4785 e4786 e4787 e4788 hp4821).2.2 (xb_0 q4811)).2 (xb_n0 q4809)).2 (xb_n0 q4806)).1) (by omega) (sg_174_41_r  (xR_cF rfl rfl rfl (c_165_r (((((((h.2.2 q4815).2 e4780 e4781 e4782 e4783 e4784 hp4819).1 (xb_n0 q4812)).2 e4785 e4786 e4787 e4788 hp4821).2.2 (xb_0 q4811)).2 (xb_n0 q4809)).2 (xb_n0 q4806)).2.1) (by omega) (xR_cQ rfl rfl rfl (c_166_r (((((((h.2.2 q4815).2 e4780 e4781 e4782 e4783 e4784 hp4819).1 (xb_n0 q4812)).2 e4785 e4786 e4787 e4788 hp4821).2.2 (xb_0 q4811)).2 (xb_n0 q4809)).2 (xb_n0 q4806)).2.2.1) (by omega) (fun _ _ _ _ hx4828 => by obtain ⟨e4802, e4803, e4804, hp4829, rfl, rfl, rfl, rfl⟩ := hx4828; exact (sg_174_45_r  ⟨((((((((h.2.2 q4815).2 e4780 e4781 e4782 e4783 e4784 hp4819).1 (xb_n0 q4812)).2 e4785 e4786 e4787 e4788 hp4821).2.2 (xb_0 q4811)).2 (xb_n0 q4809)).2 (xb_n0 q4806)).2.2.2 e4802 e4803 e4804 hp4829).1, (xR_memc ((((((((h.2.2 q4815).2 e4780 e4781 e4782 e4783 e4784 hp4819).1 (xb_n0 q4812)).2 e4785 e4786 e4787 e4788 hp4821).2.2 (xb_0 q4811)).2 (xb_n0 q4809)).2 (xb_n0 q4806)).2.2.2 e4802 e4803 e4804 hp4829).2 (funext fun i => (xpt rfl (fun h108_ => (xpt rfl (fun h104_ => (xpt rfl (fun h103_ => (xpt rfl (fun h101_ => (by simp only [xsc_ne _ _ h101_, xwr_ne _ _ _ h101_, xsc_ne _ _ h103_, xwr_ne _ _ _ h103_, xsc_ne _ _ h104_, xwr_ne _ _ _ h104_, xsc_ne _ _ h108_, xwr_ne _ _ _ h108_])))))))))) rfl)⟩))))))⟩⟩))⟩⟩⟩⟩))⟩⟩))))), fun q4813 => ⟨(by decide), (xpost (((h.2.2 q4815).2 e4780 e4781 e4782 e4783 e4784 hp4819).2 (xb_0 q4813)) (funext fun i => (xpt rfl (fun h108_ => (xpt rfl (fun h104_ => (xpt rfl (fun h103_ => (xpt rfl (fun h101_ => (by simp only [xsc_ne _ _ h101_, xwr_ne _ _ _ h101_, xsc_ne _ _ h103_, xwr_ne _ _ _ h103_, xsc_ne _ _ h104_, xwr_ne _ _ _ h104_, xsc_ne _ _ h108_, xwr_ne _ _ _ h108_])))))))))) rfl)⟩⟩⟩)))⟩⟩)
theorem lp_174 {I : XI} {L : XL} {D : GD} {d : Nat} {post : XQ} (hd : 8 ≤ d) (hpo : ∀ (T9 g9 l9 R9 : Int → Int) (e9 : List Int), TSP (I 102) (I 101) T9 (I 103) g9 (I 104) l9 e9 → post (some (xi (xb (T9 9 = 0)))) (xsc (xsc (xsc (xsc I 101 T9) 103 g9) 104 l9) 108 R9) L (gG D)) : ∀ (r : Nat) (T1 g1 l1 R1 : Int → Int) (x1 : XV) (e : List Int), (I 101 1 - T1 8).toNat < r → TSI (I 102) (I 101) T1 (I 103) g1 (I 104) l1 R1 e → xR d 174 es_174 8 [xr (some 101), xi 1, x1] [] (xsc (xsc (xsc (xsc I 101 T1) 103 g1) 104 l1) 108 R1) L (gG D) 0 0 post := by
  intro r
  induction r with
  | zero => intro T1 g1 l1 R1 x1 e hr hI; omega
  | succ r ih =>
    intro T1 g1 l1 R1 x1 e hr hI
    have fin : ∀ (T2 g2 l2 R2 : Int → Int) (x2 : XV) (e2 : List Int), TSK (I 102) (I 101) T2 (I 103) g2 (I 104) l2 R2 e2 → ¬ tw (I 102) (T2 1) (T2 8) = 16 → ¬ tw (I 102) (T2 1) (T2 8) = 17 → xR d 174 es_174 8 [xr (some 101), xi 0, x2] [] (xsc (xsc (xsc (xsc I 101 T2) 103 g2) 104 l2) 108 R2) L (gG D) 0 0 post := by
      intro T2 g2 l2 R2 x2 e2 hK n16 n17
      have hh := hK.hd
      refine b_174_r (by omega) ?_
      simp only [hh.2.1]
      refine ⟨⟨by decide, by decide⟩, fun _ => ⟨hK.1, fun ni => ⟨⟨hK.1, ⟨by decide, by decide⟩⟩, fun T3 g3 l3 hs => ?_⟩, fun yi => ⟨hh.1, hh.2.2.2, ?_⟩⟩, fun r => (by first | exact absurd rfl r | exact absurd trivial r)⟩
      · have hz := hK.ok n16 n17 ni hs
        have hz2 := hpo _ _ _ R2 _ hz.1
        rw [xb_t hz.2] at hz2
        exact hz2
      · have hz := hK.bd n16 n17 yi
        have hz2 := hpo _ _ _ R2 _ hz.1
        rw [xb_f (show ¬ xup (xup T2 8 (T2 8)) 9 (1 + 8 * T2 8 + 0) 9 = 0 from hz.2)] at hz2
        rw [xb_f (fun r : False => r)]
        exact hz2
    have go : ∀ (T2 g2 l2 R2 : Int → Int) (e2 : List Int), T1 8 < T2 8 → TSK (I 102) (I 101) T2 (I 103) g2 (I 104) l2 R2 e2 → ∀ x k : Int, (x = 12 ∨ x = 13) → sth x = k → tw (I 102) (T2 1) (T2 8) = x + 4 → ∀ (T3 g3 l3 : Int → Int), STP k (I 102) R2 (xup T2 8 (le_ (I 102) (T2 1) (T2 8))) T3 g2 g3 l2 l3 → (0 ≤ T3 16 ∧ T3 16 < 400) ∧ xR d 174 es_174 8 [xr (some 101), xi 1, xi x] [] (xsc (xsc (xsc (xsc I 101 (xup T3 16 (T3 16 + 1))) 103 g3) 104 l3) 108 (xup R2 (T3 16) x)) L (gG D) 0 0 post := by
      intro T2 g2 l2 R2 e2 h8 hK x k hx hk hw T3 g3 l3 hs
      have e1 := hK.2.1.1 1 (by omega)
      have hh := hK.hd
      obtain ⟨a1, a2, e3, a3⟩ := (hK.jn hx hk hw).2.2 T3 g3 l3 hs
      exact ⟨a1, ih _ _ _ _ _ e3 (by show (I 101 1 - T3 8).toNat < r; omega) a3⟩
    refine b_174_r (by omega) ?_
    refine ⟨⟨by decide, by decide⟩, fun r => absurd r (by decide), fun _ => ⟨hI.1, fun T2 g2 l2 R2 e2 hf => ⟨fun h0 => ?_, fun h0 => ?_⟩⟩⟩
    · refine ⟨(hf.2.2.1 h0).1, fun T3 g3 l3 e3 hc => ?_⟩
      have hK := hI.fc hf h0 hc
      have hh := hK.hd
      have h8 : T1 8 < T3 8 := by
        have a1 := (hf.2.2.1 h0).2.2.1
        have a2 := hc.1.2.2.2.1
        omega
      simp only [twe_16, twe_17]
      refine ⟨⟨hh.1, hh.2.1⟩, fun y16 => ⟨fun r => absurd y16 r, fun _ => ?_⟩, fun n16 => ⟨fun n17 => fin _ _ _ _ _ _ hK n16 n17, fun y17 => ⟨fun _ => ?_, fun r => absurd r n16⟩⟩⟩
      · have hj := hK.jn (x := 12) (k := sth 12) (Or.inl rfl) rfl (by omega)
        exact ⟨hh.1, ⟨by decide, by decide⟩, ⟨hj.1, hj.2.1⟩, fun T4 g4 l4 hs => go _ _ _ _ _ h8 hK 12 (sth 12) (Or.inl rfl) rfl (by omega) _ _ _ hs⟩
      · have hj := hK.jn (x := 13) (k := sth 13) (Or.inr rfl) rfl (by omega)
        exact ⟨hh.1, ⟨by decide, by decide⟩, ⟨hj.1, hj.2.1⟩, fun T4 g4 l4 hs => go _ _ _ _ _ h8 hK 13 (sth 13) (Or.inr rfl) rfl (by omega) _ _ _ hs⟩
    · have hz := hpo _ _ _ R2 _ (hI.ff hf h0)
      rw [xb_f h0] at hz
      exact hz
theorem c_174_r {I : XI} {L : XL} {D : GD}    (h : RK (I 102) (I 101) (I 104)) : xM 8 174 [xr (some 101)] I L (gG D) (0, 0) (fun r2 I2 L2 G2 => ∃ (T9 : Int → Int) (g9 : Int → Int) (l9 : Int → Int) (R9 : Int → Int) (e9 : List Int), TSP (I 102) (I 101) T9 (I 103) g9 (I 104) l9 e9 ∧ r2 = (some (xi (xb (T9 9 = 0)))) ∧ I2 = (xsc (xsc (xsc (xsc I 101 T9) 103 g9) 104 l9) 108 R9) ∧ L2 = L ∧ G2 = (gG D)) := by
  intro d hd
  refine w_174_r (by omega) ?_
  exact xR_memc (lp_174 (by omega) (fun _ _ _ _ _ hz => ⟨_, _, _, _, _, hz, rfl, rfl, rfl, rfl⟩) _ _ (I 103) (I 104) (I 108) _ _ (Nat.lt_succ_self _) (TSI.st h)) (by (funext i; by_cases h101 : i = 101; (subst h101; first | rfl | exact (xcp_zero _ _ _ _).symm | exact (xup_self _ _).symm | exact (xup_self2 _ _ _).symm | exact (xup_self3 _ _ _ _).symm | exact xup_self _ _); by_cases h103 : i = 103; (subst h103; first | rfl | exact (xcp_zero _ _ _ _).symm | exact (xup_self _ _).symm | exact (xup_self2 _ _ _).symm | exact (xup_self3 _ _ _ _).symm | exact xup_self _ _); by_cases h104 : i = 104; (subst h104; first | rfl | exact (xcp_zero _ _ _ _).symm | exact (xup_self _ _).symm | exact (xup_self2 _ _ _).symm | exact (xup_self3 _ _ _ _).symm | exact xup_self _ _); by_cases h108 : i = 108; (subst h108; first | rfl | exact (xcp_zero _ _ _ _).symm | exact (xup_self _ _).symm | exact (xup_self2 _ _ _).symm | exact (xup_self3 _ _ _ _).symm | exact xup_self _ _); first | rfl | simp only [xsc_ne _ _ h101, xsc_ne _ _ h103, xsc_ne _ _ h104, xsc_ne _ _ h108])) rfl
