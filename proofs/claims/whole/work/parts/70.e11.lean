theorem SO_congr0 {a b : Int → Int} (e : ∀ j, 0 ≤ j → j < 102 → b j = a j) (h : SO a) : SO b := by
  have e3 := e 3 (by decide) (by decide)
  have e4 := e 4 (by decide) (by decide)
  have e0 := e 0 (by decide) (by decide)
  have e1 := e 1 (by decide) (by decide)
  have e2 := e 2 (by decide) (by decide)
  have e10 := e 10 (by decide) (by decide)
  refine ⟨by rw [e3]; exact h.n, by rw [e4]; exact h.g, by rw [e0]; exact h.f, by rw [e1]; exact h.first, by rw [e2]; exact h.stir, by rw [e10]; exact h.turn, fun s p q => ?_, fun s p q => ?_, fun s p q => ?_, fun s p q => ?_, fun s p q => ?_, fun s p q => ?_⟩
  · rw [e _ (by omega) (by omega), e4, e3]; exact h.w p q
  · rw [e _ (by omega) (by omega)]; exact h.r p q
  · rw [e _ (by omega) (by omega)]; exact h.k p q
  · rw [e _ (by omega) (by omega)]; exact h.z p q
  · rw [e _ (by omega) (by omega)]; exact h.t p q
  · rw [e _ (by omega) (by omega)]; exact h.l p q
theorem cvw_hi {F Kd Z Tr Lk T O U P : Int → Int} {j : Int} (hj : ¬ (0 ≤ j ∧ j < 102)) : cvw F Kd Z Tr Lk T O U P j = P j := by
  unfold cvw
  rw [if_neg (by omega), if_neg (by omega), if_neg (by omega), if_neg (by omega), if_neg (by omega), if_neg (by omega), if_neg (by omega), if_neg (by omega), if_neg (by omega), if_neg (by omega), if_neg (by omega), if_neg (by omega)]
theorem cvw_cp {F Kd Z Tr Lk T O U P F2 Kd2 Z2 Tr2 Lk2 T2 O2 U2 P2 : Int → Int} (hF : ∀ j, 0 ≤ j → j < 5 → F2 j = F j) (hK : ∀ j, 0 ≤ j → j < 10 → Kd2 j = Kd j) (hZ : ∀ j, 0 ≤ j → j < 10 → Z2 j = Z j) (hTr : ∀ j, 0 ≤ j → j < 5 → Tr2 j = Tr j) (hL : ∀ j, 0 ≤ j → j < 20 → Lk2 j = Lk j) (hT : ∀ j, 1 ≤ j → j < 3 → T2 j = T j) (hO : ∀ j, 0 ≤ j → j < 10 → O2 j = O j) (hU : ∀ j, 0 ≤ j → j < 5 → U2 j = U j) (hP : ∀ j, 0 ≤ j → j < 102 → P2 j = P j) {j : Int} (h0 : 0 ≤ j) (h1 : j < 102) : cvw F2 Kd2 Z2 Tr2 Lk2 T2 O2 U2 P2 j = cvw F Kd Z Tr Lk T O U P j := by
  unfold cvw
  rw [hF 0 (by decide) (by decide), hF 2 (by decide) (by decide), hF 3 (by decide) (by decide), hF 4 (by decide) (by decide), hT 1 (by decide) (by decide), hT 2 (by decide) (by decide), hP j h0 h1]
  by_cases c0 : j = 0
  · rw [if_pos c0, if_pos c0]
  rw [if_neg c0, if_neg c0]
  by_cases c1 : j = 1
  · rw [if_pos c1, if_pos c1]
  rw [if_neg c1, if_neg c1]
  by_cases c2 : j = 2
  · rw [if_pos c2, if_pos c2]
  rw [if_neg c2, if_neg c2]
  by_cases c3 : j = 3
  · rw [if_pos c3, if_pos c3]
  rw [if_neg c3, if_neg c3]
  by_cases c4 : j = 4
  · rw [if_pos c4, if_pos c4]
  rw [if_neg c4, if_neg c4]
  by_cases c5 : j = 10
  · rw [if_pos c5, if_pos c5]
  rw [if_neg c5, if_neg c5]
  by_cases c6 : 11 ≤ j ∧ j < 21
  · rw [if_pos c6, if_pos c6]; exact hO _ (by omega) (by omega)
  rw [if_neg c6, if_neg c6]
  by_cases c7 : 21 ≤ j ∧ j < 26
  · rw [if_pos c7, if_pos c7, hU _ (by omega) (by omega)]
  rw [if_neg c7, if_neg c7]
  by_cases c8 : 26 ≤ j ∧ j < 36
  · rw [if_pos c8, if_pos c8, hK _ (by omega) (by omega)]
  rw [if_neg c8, if_neg c8]
  by_cases c9 : 36 ≤ j ∧ j < 46
  · rw [if_pos c9, if_pos c9, hZ _ (by omega) (by omega)]
  rw [if_neg c9, if_neg c9]
  by_cases c10 : 46 ≤ j ∧ j < 51
  · rw [if_pos c10, if_pos c10, hTr _ (by omega) (by omega)]
  rw [if_neg c10, if_neg c10]
  by_cases c11 : 51 ≤ j ∧ j < 71
  · rw [if_pos c11, if_pos c11, hL _ (by omega) (by omega)]
  rw [if_neg c11, if_neg c11]
theorem R2_copy {F Kd Z Tr Lk Wt T O U P F2 Kd2 Z2 Tr2 Lk2 Wt2 T2 O2 U2 P2 : Int → Int} (h : R2 F Kd Z Tr Lk Wt T O U P) (hF : ∀ j, 0 ≤ j → j < 5 → F2 j = F j) (hK : ∀ j, 0 ≤ j → j < 10 → Kd2 j = Kd j) (hZ : ∀ j, 0 ≤ j → j < 10 → Z2 j = Z j) (hTr : ∀ j, 0 ≤ j → j < 5 → Tr2 j = Tr j) (hL : ∀ j, 0 ≤ j → j < 20 → Lk2 j = Lk j) (hW : ∀ j, 0 ≤ j → j < 50 → Wt2 j = Wt j) (hT : ∀ j, 1 ≤ j → j < 3 → T2 j = T j) (hO : ∀ j, 0 ≤ j → j < 10 → O2 j = O j) (hU : ∀ j, 0 ≤ j → j < 5 → U2 j = U j) (hP : ∀ j, 0 ≤ j → j < 102 → P2 j = P j) : R2 F2 Kd2 Z2 Tr2 Lk2 Wt2 T2 O2 U2 P2 := by
  obtain ⟨a, b, c, d⟩ := h
  have hn := b.n
  have hg := b.g
  have ec : ∀ j, 0 ≤ j → j < 102 → cvw F2 Kd2 Z2 Tr2 Lk2 T2 O2 U2 P2 j = cvw F Kd Z Tr Lk T O U P j := fun j h0 h1 => cvw_cp hF hK hZ hTr hL hT hO hU hP h0 h1
  refine ⟨?_, ⟨SO_congr0 ec b.1, ?_⟩, by rw [hT 2 (by decide) (by decide)]; exact c, by rw [hT 1 (by decide) (by decide), hF 1 (by decide) (by decide)]; exact d⟩
  · funext j
    by_cases hj : 0 ≤ j ∧ j < 102
    · rw [ec j hj.1 hj.2, hP j hj.1 hj.2]; exact congrFun a j
    · rw [cvw_hi hj]
  · intro g s g0 g1 s0 s1
    rw [hF 4 (by decide) (by decide)] at g1
    rw [hF 3 (by decide) (by decide)] at s1
    have hk := b.1.k s0 (by omega)
    rw [cvw_k ⟨s0, s1⟩ (by omega)] at hk
    rw [hW _ (by omega) (by omega), hZ _ s0 (by omega), hK _ s0 (by omega), hL _ (by omega) (by omega)]
    exact b.2 g s g0 g1 s0 s1
theorem R5_copy {S N1 N2 N3 P F S2 M1 M2 M3 P2 F2 : Int → Int} {kk : Int} (h : R5 S N1 N2 N3 P F kk) (h4 : S2 4 = S 4) (h1 : ∀ j, 0 ≤ j → j < 10 → M1 j = N1 j) (h2 : ∀ j, 0 ≤ j → j < 10 → M2 j = N2 j) (h3 : ∀ j, 0 ≤ j → j < 10 → M3 j = N3 j) (hF : F2 3 = F 3) (hP : ∀ j, 0 ≤ j → j < 102 → P2 j = P j) : R5 S2 M1 M2 M3 P2 F2 kk := by
  obtain ⟨⟨a1, a2, a3⟩, ⟨b1, b2⟩, c⟩ := h
  have e101 := hP 101 (by decide) (by decide)
  refine ⟨⟨by rw [h4]; exact a1, by rw [h4, e101]; exact a2, fun i i0 i1 => ?_⟩, ⟨by rw [e101]; exact b1, fun i i0 i1 => ?_⟩, c⟩
  · rw [h4] at i1
    rw [h1 i i0 (by omega), h2 i i0 (by omega), h3 i i0 (by omega), hF, hP _ (by omega) (by omega), hP _ (by omega) (by omega), hP _ (by omega) (by omega)]
    exact a3 i i0 i1
  · rw [hP _ (by omega) (by omega), hP _ (by omega) (by omega), hP _ (by omega) (by omega)]
    exact b2 i i0 i1
theorem R7_other {k m1 m2 : Int} {S F Kd Z Tr Lk Wt T O U N1 N2 N3 Im Fo Xs Im2 Fo2 Xs2 : Int → Int} {rs : Int} (h : R7 k m1 m2 S F Kd Z Tr Lk Wt T O U N1 N2 N3 Im Fo Xs rs) (hI : ∀ j, 0 ≤ j → j < 102 → Im2 (102 * k + j) = Im (102 * k + j)) (hFo : Fo2 k = Fo k) (hXs : Xs2 k = Xs k) : R7 k m1 m2 S F Kd Z Tr Lk Wt T O U N1 N2 N3 Im2 Fo2 Xs2 rs := by
  obtain ⟨a, b, c, d⟩ := h
  have e : (fun j : Int => if 0 ≤ j ∧ j < 102 then Im2 (102 * k + j) else 0) = fun j => if 0 ≤ j ∧ j < 102 then Im (102 * k + j) else 0 := by
    funext j
    by_cases q : 0 ≤ j ∧ j < 102
    · rw [if_pos q, if_pos q]; exact hI j q.1 q.2
    · rw [if_neg q, if_neg q]
  refine ⟨a, b, c, fun hm => ?_⟩
  obtain ⟨d1, d2, d3, d4⟩ := d hm
  rw [e, hFo, hXs]
  exact ⟨d1, d2, d3, d4⟩
