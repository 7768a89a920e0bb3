def spl (P Q : Int → Int) : Int → Int := fun j => if j < 71 then P j else Q j
theorem spl_lt {P Q : Int → Int} {j : Int} (h : j < 71) : spl P Q j = P j := if_pos h
theorem spl_ge {P Q : Int → Int} {j : Int} (h : 71 ≤ j) : spl P Q j = Q j := if_neg (by omega)
theorem spl_eq {P P2 : Int → Int} (h : ∀ j, j < 71 → P2 j = P j) : P2 = spl P P2 := by
  funext j
  unfold spl
  split
  · rename_i q; exact h j q
  · rfl
theorem spl_up {P Q : Int → Int} {i v : Int} (h : i < 71) : xup (spl P Q) i v = spl (xup P i v) Q := by
  funext j
  by_cases q : j = i
  · subst q; rw [xup_same, spl_lt h, xup_same]
  · rw [xup_ne _ _ q]
    unfold spl
    rw [xup_ne _ _ q]
theorem SO_spl {P Q : Int → Int} (h : SO P) : SO (spl P Q) := by
  refine ⟨h.n, h.g, h.f, h.first, h.stir, h.turn, fun s a b => ?_, fun s a b => ?_, fun s a b => ?_, fun s a b => ?_, fun s a b => ?_, fun s a b => ?_⟩
  · have hq := h.w a b; (repeat rw [spl_lt (by omega)]); exact hq
  · rw [spl_lt (by omega)]; exact h.r a b
  · rw [spl_lt (by omega)]; exact h.k a b
  · rw [spl_lt (by omega)]; exact h.z a b
  · rw [spl_lt (by omega)]; exact h.t a b
  · rw [spl_lt (by omega)]; exact h.l a b
theorem cvw_spl {F Kd Z Tr Lk T O U P Q : Int → Int} : cvw F Kd Z Tr Lk T O U (spl P Q) = spl (cvw F Kd Z Tr Lk T O U P) Q := by
  funext j
  by_cases hj : j < 71
  · rw [spl_lt hj]
    unfold cvw
    rw [spl_lt hj]
  · rw [spl_ge (by omega)]
    unfold cvw
    rw [if_neg (by omega), if_neg (by omega), if_neg (by omega), if_neg (by omega), if_neg (by omega), if_neg (by omega), if_neg (by omega), if_neg (by omega), if_neg (by omega), if_neg (by omega), if_neg (by omega), if_neg (by omega), spl_ge (by omega)]
theorem psn_spl {W P Q : Int → Int} {i : Int} : psn W (spl P Q) i = spl (psn W P i) Q := by
  funext j
  by_cases hj : j < 71
  · rw [spl_lt hj]
    unfold psn
    rw [spl_lt hj]
  · rw [spl_ge (by omega)]
    unfold psn
    rw [if_neg (by omega), spl_ge (by omega)]
theorem pundo_spl {P Q : Int → Int} {ac o p : Int} (hn : P 3 ≤ 10) (ho : -1 ≤ o ∧ o < 10) (h3 : ac = 3 → (0 ≤ o ∧ o < P 3) ∧ (0 ≤ p ∧ p < P 3)) : pundo ac o p (spl P Q) = spl (pundo ac o p P) Q := by
  unfold pundo
  rw [spl_lt (j := 3) (by decide), spl_lt (j := 4) (by decide), spl_lt (j := 10) (by decide)]
  by_cases a0 : ac = 0
  · rw [if_pos a0, if_pos a0]
    split
    · rw [spl_up (by omega), spl_up (by omega)]
    · rw [spl_up (by omega)]
  rw [if_neg a0, if_neg a0]
  by_cases a1 : ac = 1 ∨ ac = 2
  · rw [if_pos a1, if_pos a1]
    split
    · rw [spl_up (by omega)]
    · rfl
  rw [if_neg a1, if_neg a1]
  by_cases a3 : ac = 3
  · have hh := h3 a3
    rw [if_pos a3, if_pos a3, spl_lt (by omega), spl_lt (by omega), spl_up (by omega), spl_up (by omega)]
  rw [if_neg a3, if_neg a3]
  split
  · rw [spl_up (by omega)]
  · rfl
theorem R2_hi {F Kd Z Tr Lk Wt T O U P P2 : Int → Int} (h : R2 F Kd Z Tr Lk Wt T O U P) (hh : ∀ j, j < 71 → P2 j = P j) : R2 F Kd Z Tr Lk Wt T O U P2 := by
  have e := spl_eq hh
  obtain ⟨a, b, c, d⟩ := h
  refine ⟨?_, ⟨?_, b.2⟩, c, d⟩
  · rw [e, cvw_spl, ← a]
  · rw [e, cvw_spl]; exact SO_spl b.1
theorem R6_hi {kp nx un : Int} {A1 A2 A3 W P P2 : Int → Int} (h : R6 kp nx un A1 A2 A3 W P) (hn3 : P 3 ≤ 10) (hh : ∀ j, j < 71 → P2 j = P j) : R6 kp nx un A1 A2 A3 W P2 := by
  have eP := spl_eq hh
  obtain ⟨e, hk, hn, hall⟩ := h
  refine ⟨e, hk, hn, fun i i0 i1 => ?_⟩
  obtain ⟨s1, s2, s3, s4, s5, s6, s7⟩ := hall i i0 i1
  have e3 : P2 3 = P 3 := hh 3 (by decide)
  refine ⟨?_, ?_, ?_, s4, s5, s6, ?_⟩
  · rw [eP, psn_spl]; exact SO_spl s1
  · rw [eP, psn_spl, spl_lt (by decide)]; exact s2
  · have e1 : (if i + 1 = kp then spl P P2 else spl (psn W P (i + 1)) P2) = spl (if i + 1 = kp then P else psn W P (i + 1)) P2 := by split <;> rfl
    have e4 : (if i + 1 = kp then P else psn W P (i + 1)) 3 = P 3 := by
      split
      · rfl
      · exact psn_out (by omega)
    rw [eP, psn_spl, psn_spl, e1, pundo_spl (by rw [e4]; exact hn3) s5 (by rw [e4]; exact s7), ← s3]
  · rw [e3]; exact s7
theorem pnote_lo {a : Int → Int} {n s g : Int} (h : 0 ≤ a 101) : ∀ j, j < 71 → pnote a n s g j = a j := by
  intro j hj
  unfold pnote
  rw [xup_ne _ _ (by omega), xup_ne _ _ (by omega), xup_ne _ _ (by omega), xup_ne _ _ (by omega)]
theorem pnote_at {a : Int → Int} {n s g i : Int} (h : 0 ≤ a 101 ∧ a 101 < 10) (hi : 0 ≤ i ∧ i < 10) : pnote a n s g (71 + 3 * i) = (if i = a 101 then n else a (71 + 3 * i)) ∧ pnote a n s g (71 + 3 * i + 1) = (if i = a 101 then s else a (71 + 3 * i + 1)) ∧ pnote a n s g (71 + 3 * i + 2) = (if i = a 101 then g else a (71 + 3 * i + 2)) := by
  unfold pnote
  rw [xup_ne _ _ (show ¬ 71 + 3 * i = 101 by omega), xup_ne _ _ (show ¬ 71 + 3 * i + 1 = 101 by omega), xup_ne _ _ (show ¬ 71 + 3 * i + 2 = 101 by omega)]
  by_cases q : i = a 101
  · rw [if_pos q, if_pos q, if_pos q, ← q]
    refine ⟨?_, ?_, ?_⟩
    · rw [xup_ne _ _ (by omega), xup_ne _ _ (by omega), xup_same]
    · rw [xup_ne _ _ (by omega), xup_same]
    · rw [xup_same]
  · rw [if_neg q, if_neg q, if_neg q]
    refine ⟨?_, ?_, ?_⟩
    · rw [xup_ne _ _ (by omega), xup_ne _ _ (by omega), xup_ne _ _ (by omega)]
    · rw [xup_ne _ _ (by omega), xup_ne _ _ (by omega), xup_ne _ _ (by omega)]
    · rw [xup_ne _ _ (by omega), xup_ne _ _ (by omega), xup_ne _ _ (by omega)]
theorem R5_note {S6 N7 N8 N9 P F : Int → Int} {kk n s g : Int} (h : R5 S6 N7 N8 N9 P F kk) (hF : F 3 ≤ 10) (hn : 0 ≤ n ∧ n ≤ 60) (hs : 0 ≤ s ∧ s < F 3) (hg : -1 ≤ g ∧ g < 5) (hm : ¬ S6 4 = 10) : R5 (xup S6 4 (S6 4 + 1)) (xup N7 (S6 4) n) (xup N8 (S6 4) s) (xup N9 (S6 4) g) (pnote P n s g) F kk := by
  obtain ⟨⟨a1, a2, a3⟩, ⟨b1, b2⟩, c⟩ := h
  have e4 : xup S6 4 (S6 4 + 1) 4 = S6 4 + 1 := xup_same _ _ _
  have e101 : pnote P n s g 101 = P 101 + 1 := xup_same _ _ _
  refine ⟨⟨by rw [e4]; omega, by rw [e4, e101]; omega, fun i i0 i1 => ?_⟩, ⟨by rw [e101]; omega, fun i i0 i1 => ?_⟩, c⟩
  · rw [e4] at i1
    obtain ⟨p1, p2, p3⟩ := pnote_at (a := P) (n := n) (s := s) (g := g) (i := i) (by omega) (by omega)
    rw [p1, p2, p3]
    by_cases q : i = S6 4
    · rw [if_pos (by omega), if_pos (by omega), if_pos (by omega), q, xup_same, xup_same, xup_same]
      exact ⟨rfl, rfl, rfl, hs, hn, hg⟩
    · rw [if_neg (by omega), if_neg (by omega), if_neg (by omega), xup_ne _ _ q, xup_ne _ _ q, xup_ne _ _ q]
      exact a3 i i0 (by omega)
  · obtain ⟨p1, p2, p3⟩ := pnote_at (a := P) (n := n) (s := s) (g := g) (i := i) (by omega) (by omega)
    rw [p1, p2, p3]
    by_cases q : i = P 101
    · rw [if_pos q, if_pos q, if_pos q]
      exact ⟨hn, by omega, hg⟩
    · rw [if_neg q, if_neg q, if_neg q]
      exact b2 i i0 i1
theorem R5_none {S6 N7 N8 N9 P F : Int → Int} {kk : Int} (h : R5 S6 N7 N8 N9 P F kk) : R5 (xup S6 4 0) N7 N8 N9 (xup P 101 0) F kk := by
  obtain ⟨⟨a1, a2, a3⟩, ⟨b1, b2⟩, c⟩ := h
  have e4 : xup S6 4 0 4 = 0 := xup_same _ _ _
  have e101 : xup P 101 0 101 = 0 := xup_same _ _ _
  refine ⟨⟨by rw [e4]; omega, by rw [e4, e101], fun i i0 i1 => ?_⟩, ⟨by rw [e101]; omega, fun i i0 i1 => ?_⟩, c⟩
  · rw [e4] at i1; omega
  · rw [xup_ne _ _ (by omega), xup_ne _ _ (by omega), xup_ne _ _ (by omega)]
    exact b2 i i0 i1
set_option maxRecDepth 8000 in
theorem sg_264_577 {d : Nat} {I : XI} {L : XL} {D : GD} {post : XQ} {c s : Nat} {u3 : Int} (h : ((0 ≤ (u3 + (1 : Int)) ∧ (u3 + (1 : Int)) < (D.2.2.2.2 : Int)) ∧ ((0 ≤ (u3 + (2 : Int)) ∧ (u3 + (2 : Int)) < (D.2.2.2.2 : Int)) ∧ ((0 ≤ (u3 + (3 : Int)) ∧ (u3 + (3 : Int)) < (D.2.2.2.2 : Int)) ∧ xR d 264 es_264 593 [xt 2, xr (some 0), xr (some 101), xi u3] [xi (D.2.2.2.1 (u3 + (3 : Int))), xi (D.2.2.2.1 (u3 + (2 : Int))), xi (D.2.2.2.1 (u3 + (1 : Int))), xr (some 0)] I L (gG D) c s post)))) : xR d 264 es_264 577 [xt 2, xr (some 0), xr (some 101), xi u3] [] I L (gG D) c s post := xW_R (fun k => Nat.beq k 2 || Nat.beq k 6 || Nat.beq k 10 || Nat.beq k 48 || Nat.beq k 75 || Nat.beq k 85 || Nat.beq k 92 || Nat.beq k 97 || Nat.beq k 99 || Nat.beq k 104 || Nat.beq k 106 || Nat.beq k 116 || Nat.beq k 123 || Nat.beq k 138 || Nat.beq k 150 || Nat.beq k 165 || Nat.beq k 177 || Nat.beq k 182 || Nat.beq k 184 || Nat.beq k 199 || Nat.beq k 211 || Nat.beq k 221 || Nat.beq k 228 || Nat.beq k 243 || Nat.beq k 255 || Nat.beq k 265 || Nat.beq k 272 || Nat.beq k 277 || Nat.beq k 279 || Nat.beq k 299 || Nat.beq k 316 || Nat.beq k 321 || Nat.beq k 323 || Nat.beq k 328 || Nat.beq k 330 || Nat.beq k 345 || Nat.beq k 357 || Nat.beq k 367 || Nat.beq k 374 || Nat.beq k 384 || Nat.beq k 391 || Nat.beq k 401 || Nat.beq k 408 || Nat.beq k 428 || Nat.beq k 445 || Nat.beq k 460 || Nat.beq k 472 || Nat.beq k 487 || Nat.beq k 499 || Nat.beq k 524 || Nat.beq k 546 || Nat.beq k 561 || Nat.beq k 573 || Nat.beq k 593 || Nat.beq k 610 || Nat.beq k 620 || Nat.beq k 627 || Nat.beq k 642 || Nat.beq k 654 || Nat.beq k 664 || Nat.beq k 671 || Nat.beq k 696 || Nat.beq k 718 || Nat.beq k 728 || Nat.beq k 735 || Nat.beq k 745 || Nat.beq k 752 || Nat.beq k 762 || Nat.beq k 769) 16 _ _ _ _ _ _ _ _ _ _ _ _ h
set_option maxRecDepth 8000 in
theorem sg_264_594 {d : Nat} {I : XI} {L : XL} {D : GD} {post : XQ} {c s : Nat} {u3 : Int} {w0 : Int} (h : ((0 ≤ (u3 + (1 : Int)) ∧ (u3 + (1 : Int)) < (D.2.2.2.2 : Int)) ∧ ((0 ≤ (u3 + (2 : Int)) ∧ (u3 + (2 : Int)) < (D.2.2.2.2 : Int)) ∧ ((0 ≤ (u3 + (3 : Int)) ∧ (u3 + (3 : Int)) < (D.2.2.2.2 : Int)) ∧ xR d 264 es_264 610 [xt 2, xr (some 0), xr (some 101), xi u3] [xi (D.2.2.2.1 (u3 + (3 : Int))), xi (D.2.2.2.1 (u3 + (2 : Int))), xi (D.2.2.2.1 (u3 + (1 : Int))), xr (some 101), xi w0] I L (gG D) c s post)))) : xR d 264 es_264 594 [xt 2, xr (some 0), xr (some 101), xi u3] [xi w0] I L (gG D) c s post := xW_R (fun k => Nat.beq k 2 || Nat.beq k 6 || Nat.beq k 10 || Nat.beq k 48 || Nat.beq k 75 || Nat.beq k 85 || Nat.beq k 92 || Nat.beq k 97 || Nat.beq k 99 || Nat.beq k 104 || Nat.beq k 106 || Nat.beq k 116 || Nat.beq k 123 || Nat.beq k 138 || Nat.beq k 150 || Nat.beq k 165 || Nat.beq k 177 || Nat.beq k 182 || Nat.beq k 184 || Nat.beq k 199 || Nat.beq k 211 || Nat.beq k 221 || Nat.beq k 228 || Nat.beq k 243 || Nat.beq k 255 || Nat.beq k 265 || Nat.beq k 272 || Nat.beq k 277 || Nat.beq k 279 || Nat.beq k 299 || Nat.beq k 316 || Nat.beq k 321 || Nat.beq k 323 || Nat.beq k 328 || Nat.beq k 330 || Nat.beq k 345 || Nat.beq k 357 || Nat.beq k 367 || Nat.beq k 374 || Nat.beq k 384 || Nat.beq k 391 || Nat.beq k 401 || Nat.beq k 408 || Nat.beq k 428 || Nat.beq k 445 || Nat.beq k 460 || Nat.beq k 472 || Nat.beq k 487 || Nat.beq k 499 || Nat.beq k 524 || Nat.beq k 546 || Nat.beq k 561 || Nat.beq k 573 || Nat.beq k 593 || Nat.beq k 610 || Nat.beq k 620 || Nat.beq k 627 || Nat.beq k 642 || Nat.beq k 654 || Nat.beq k 664 || Nat.beq k 671 || Nat.beq k 696 || Nat.beq k 718 || Nat.beq k 728 || Nat.beq k 735 || Nat.beq k 745 || Nat.beq k 752 || Nat.beq k 762 || Nat.beq k 769) 16 _ _ _ _ _ _ _ _ _ _ _ _ h
set_option maxRecDepth 8000 in
theorem sg_264_611 {d : Nat} {I : XI} {L : XL} {D : GD} {post : XQ} {c s : Nat} {u3 : Int} {w0 : Int} {w1 : Int} (h : (((-2147483648 ≤ w0 ∧ w0 ≤ 2147483647) ∧ (-2147483648 ≤ w1 ∧ w1 ≤ 2147483647)) ∧ ((w0 = w1 → xR d 264 es_264 10 [xt 2, xr (some 0), xr (some 101), xi (u3 + (6 : Int))] [] I L (gG D) c s post) ∧ (¬ w0 = w1 → (((0 : Int) = 0 ∨ (0 : Int) = 1) ∧ post (some (xi (0 : Int))) I L (gG D)))))) : xR d 264 es_264 611 [xt 2, xr (some 0), xr (some 101), xi u3] [xi w1, xi w0] I L (gG D) c s post := xW_R (fun k => Nat.beq k 2 || Nat.beq k 6 || Nat.beq k 10 || Nat.beq k 48 || Nat.beq k 75 || Nat.beq k 85 || Nat.beq k 92 || Nat.beq k 97 || Nat.beq k 99 || Nat.beq k 104 || Nat.beq k 106 || Nat.beq k 116 || Nat.beq k 123 || Nat.beq k 138 || Nat.beq k 150 || Nat.beq k 165 || Nat.beq k 177 || Nat.beq k 182 || Nat.beq k 184 || Nat.beq k 199 || Nat.beq k 211 || Nat.beq k 221 || Nat.beq k 228 || Nat.beq k 243 || Nat.beq k 255 || Nat.beq k 265 || Nat.beq k 272 || Nat.beq k 277 || Nat.beq k 279 || Nat.beq k 299 || Nat.beq k 316 || Nat.beq k 321 || Nat.beq k 323 || Nat.beq k 328 || Nat.beq k 330 || Nat.beq k 345 || Nat.beq k 357 || Nat.beq k 367 || Nat.beq k 374 || Nat.beq k 384 || Nat.beq k 391 || Nat.beq k 401 || Nat.beq k 408 || Nat.beq k 428 || Nat.beq k 445 || Nat.beq k 460 || Nat.beq k 472 || Nat.beq k 487 || Nat.beq k 499 || Nat.beq k 524 || Nat.beq k 546 || Nat.beq k 561 || Nat.beq k 573 || Nat.beq k 593 || Nat.beq k 610 || Nat.beq k 620 || Nat.beq k 627 || Nat.beq k 642 || Nat.beq k 654 || Nat.beq k 664 || Nat.beq k 671 || Nat.beq k 696 || Nat.beq k 718 || Nat.beq k 728 || Nat.beq k 735 || Nat.beq k 745 || Nat.beq k 752 || Nat.beq k 762 || Nat.beq k 769) 3 _ _ _ _ _ _ _ _ _ _ _ _ h
set_option maxRecDepth 8000 in
theorem lw_25 {d : Nat} {I : XI} {L : XL} {D : GD} {post : XQ}  {c s : Nat} {i : Int} (hd : 2 ≤ d) (h : (((0 ≤ (i + (1 : Int)) ∧ (i + (1 : Int)) < (D.2.2.2.2 : Int))) ∧ (((0 ≤ (i + (2 : Int)) ∧ (i + (2 : Int)) < (D.2.2.2.2 : Int))) ∧ (((0 ≤ (i + (3 : Int)) ∧ (i + (3 : Int)) < (D.2.2.2.2 : Int))) ∧ (((0 ≤ I 10 (3 : Int) ∧ I 10 (3 : Int) ≤ 10) ∧ (0 ≤ I 10 (4 : Int) ∧ I 10 (4 : Int) ≤ 5) ∧ (-2147483648 ≤ (D.2.2.2.1 (i + (1 : Int))) ∧ (D.2.2.2.1 (i + (1 : Int))) ≤ 2147483647) ∧ (-2147483648 ≤ (D.2.2.2.1 (i + (2 : Int))) ∧ (D.2.2.2.1 (i + (2 : Int))) ≤ 2147483647) ∧ (-2147483648 ≤ (D.2.2.2.1 (i + (3 : Int))) ∧ (D.2.2.2.1 (i + (3 : Int))) ≤ 2147483647) ∧ (0 ≤ I 6 (4 : Int) ∧ I 6 (4 : Int) ≤ 10)) ∧ ((SO (I 111) ∧ (-2147483648 ≤ (D.2.2.2.1 (i + (1 : Int))) ∧ (D.2.2.2.1 (i + (1 : Int))) ≤ 2147483647) ∧ (-2147483648 ≤ (D.2.2.2.1 (i + (2 : Int))) ∧ (D.2.2.2.1 (i + (2 : Int))) ≤ 2147483647) ∧ (-2147483648 ≤ (D.2.2.2.1 (i + (3 : Int))) ∧ (D.2.2.2.1 (i + (3 : Int))) ≤ 2147483647) ∧ (0 ≤ I 111 (101 : Int) ∧ I 111 (101 : Int) ≤ 10)) ∧ (((-2147483648 ≤ (if (D.2.2.2.1 (i + (1 : Int))) = -1 then 0 else if (0 ≤ (D.2.2.2.1 (i + (1 : Int))) ∧ (D.2.2.2.1 (i + (1 : Int))) ≤ 60) ∧ (0 ≤ (D.2.2.2.1 (i + (2 : Int))) ∧ (D.2.2.2.1 (i + (2 : Int))) < I 10 (3 : Int)) ∧ ((D.2.2.2.1 (i + (3 : Int))) = -1 ∨ (0 ≤ (D.2.2.2.1 (i + (3 : Int))) ∧ (D.2.2.2.1 (i + (3 : Int))) < I 10 (4 : Int))) ∧ ¬ I 6 (4 : Int) = 10 then I 6 (4 : Int) + 1 else -2) ∧ (if (D.2.2.2.1 (i + (1 : Int))) = -1 then 0 else if (0 ≤ (D.2.2.2.1 (i + (1 : Int))) ∧ (D.2.2.2.1 (i + (1 : Int))) ≤ 60) ∧ (0 ≤ (D.2.2.2.1 (i + (2 : Int))) ∧ (D.2.2.2.1 (i + (2 : Int))) < I 10 (3 : Int)) ∧ ((D.2.2.2.1 (i + (3 : Int))) = -1 ∨ (0 ≤ (D.2.2.2.1 (i + (3 : Int))) ∧ (D.2.2.2.1 (i + (3 : Int))) < I 10 (4 : Int))) ∧ ¬ I 6 (4 : Int) = 10 then I 6 (4 : Int) + 1 else -2) ≤ 2147483647) ∧ (-2147483648 ≤ (if (D.2.2.2.1 (i + (1 : Int))) = -1 then 0 else if (0 ≤ (D.2.2.2.1 (i + (1 : Int))) ∧ (D.2.2.2.1 (i + (1 : Int))) ≤ 60) ∧ (0 ≤ (D.2.2.2.1 (i + (2 : Int))) ∧ (D.2.2.2.1 (i + (2 : Int))) < I 111 (3 : Int)) ∧ ((D.2.2.2.1 (i + (3 : Int))) = -1 ∨ (0 ≤ (D.2.2.2.1 (i + (3 : Int))) ∧ (D.2.2.2.1 (i + (3 : Int))) < I 111 (4 : Int))) ∧ ¬ I 111 (101 : Int) = 10 then I 111 (101 : Int) + 1 else -2) ∧ (if (D.2.2.2.1 (i + (1 : Int))) = -1 then 0 else if (0 ≤ (D.2.2.2.1 (i + (1 : Int))) ∧ (D.2.2.2.1 (i + (1 : Int))) ≤ 60) ∧ (0 ≤ (D.2.2.2.1 (i + (2 : Int))) ∧ (D.2.2.2.1 (i + (2 : Int))) < I 111 (3 : Int)) ∧ ((D.2.2.2.1 (i + (3 : Int))) = -1 ∨ (0 ≤ (D.2.2.2.1 (i + (3 : Int))) ∧ (D.2.2.2.1 (i + (3 : Int))) < I 111 (4 : Int))) ∧ ¬ I 111 (101 : Int) = 10 then I 111 (101 : Int) + 1 else -2) ≤ 2147483647)) ∧ (((if (D.2.2.2.1 (i + (1 : Int))) = -1 then 0 else if (0 ≤ (D.2.2.2.1 (i + (1 : Int))) ∧ (D.2.2.2.1 (i + (1 : Int))) ≤ 60) ∧ (0 ≤ (D.2.2.2.1 (i + (2 : Int))) ∧ (D.2.2.2.1 (i + (2 : Int))) < I 10 (3 : Int)) ∧ ((D.2.2.2.1 (i + (3 : Int))) = -1 ∨ (0 ≤ (D.2.2.2.1 (i + (3 : Int))) ∧ (D.2.2.2.1 (i + (3 : Int))) < I 10 (4 : Int))) ∧ ¬ I 6 (4 : Int) = 10 then I 6 (4 : Int) + 1 else -2) = (if (D.2.2.2.1 (i + (1 : Int))) = -1 then 0 else if (0 ≤ (D.2.2.2.1 (i + (1 : Int))) ∧ (D.2.2.2.1 (i + (1 : Int))) ≤ 60) ∧ (0 ≤ (D.2.2.2.1 (i + (2 : Int))) ∧ (D.2.2.2.1 (i + (2 : Int))) < I 111 (3 : Int)) ∧ ((D.2.2.2.1 (i + (3 : Int))) = -1 ∨ (0 ≤ (D.2.2.2.1 (i + (3 : Int))) ∧ (D.2.2.2.1 (i + (3 : Int))) < I 111 (4 : Int))) ∧ ¬ I 111 (101 : Int) = 10 then I 111 (101 : Int) + 1 else -2) → xR d 264 es_264 10 [xt 2, xr (some 0), xr (some 101), xi (i + (6 : Int))] [] (xsc (xsc (xsc (xsc (xsc I 6 (xup (I 6) (4 : Int) (if (D.2.2.2.1 (i + (1 : Int))) = -1 then 0 else if (0 ≤ (D.2.2.2.1 (i + (1 : Int))) ∧ (D.2.2.2.1 (i + (1 : Int))) ≤ 60) ∧ (0 ≤ (D.2.2.2.1 (i + (2 : Int))) ∧ (D.2.2.2.1 (i + (2 : Int))) < I 10 (3 : Int)) ∧ ((D.2.2.2.1 (i + (3 : Int))) = -1 ∨ (0 ≤ (D.2.2.2.1 (i + (3 : Int))) ∧ (D.2.2.2.1 (i + (3 : Int))) < I 10 (4 : Int))) ∧ ¬ I 6 (4 : Int) = 10 then I 6 (4 : Int) + 1 else I 6 (4 : Int)))) 7 (if (D.2.2.2.1 (i + (1 : Int))) = -1 then (I 7) else if (0 ≤ (D.2.2.2.1 (i + (1 : Int))) ∧ (D.2.2.2.1 (i + (1 : Int))) ≤ 60) ∧ (0 ≤ (D.2.2.2.1 (i + (2 : Int))) ∧ (D.2.2.2.1 (i + (2 : Int))) < I 10 (3 : Int)) ∧ ((D.2.2.2.1 (i + (3 : Int))) = -1 ∨ (0 ≤ (D.2.2.2.1 (i + (3 : Int))) ∧ (D.2.2.2.1 (i + (3 : Int))) < I 10 (4 : Int))) ∧ ¬ I 6 (4 : Int) = 10 then xup (I 7) (I 6 (4 : Int)) (D.2.2.2.1 (i + (1 : Int))) else (I 7))) 8 (if (D.2.2.2.1 (i + (1 : Int))) = -1 then (I 8) else if (0 ≤ (D.2.2.2.1 (i + (1 : Int))) ∧ (D.2.2.2.1 (i + (1 : Int))) ≤ 60) ∧ (0 ≤ (D.2.2.2.1 (i + (2 : Int))) ∧ (D.2.2.2.1 (i + (2 : Int))) < I 10 (3 : Int)) ∧ ((D.2.2.2.1 (i + (3 : Int))) = -1 ∨ (0 ≤ (D.2.2.2.1 (i + (3 : Int))) ∧ (D.2.2.2.1 (i + (3 : Int))) < I 10 (4 : Int))) ∧ ¬ I 6 (4 : Int) = 10 then xup (I 8) (I 6 (4 : Int)) (D.2.2.2.1 (i + (2 : Int))) else (I 8))) 9 (if (D.2.2.2.1 (i + (1 : Int))) = -1 then (I 9) else if (0 ≤ (D.2.2.2.1 (i + (1 : Int))) ∧ (D.2.2.2.1 (i + (1 : Int))) ≤ 60) ∧ (0 ≤ (D.2.2.2.1 (i + (2 : Int))) ∧ (D.2.2.2.1 (i + (2 : Int))) < I 10 (3 : Int)) ∧ ((D.2.2.2.1 (i + (3 : Int))) = -1 ∨ (0 ≤ (D.2.2.2.1 (i + (3 : Int))) ∧ (D.2.2.2.1 (i + (3 : Int))) < I 10 (4 : Int))) ∧ ¬ I 6 (4 : Int) = 10 then xup (I 9) (I 6 (4 : Int)) (D.2.2.2.1 (i + (3 : Int))) else (I 9))) 111 (if (D.2.2.2.1 (i + (1 : Int))) = -1 then xup (I 111) 101 0 else if (0 ≤ (D.2.2.2.1 (i + (1 : Int))) ∧ (D.2.2.2.1 (i + (1 : Int))) ≤ 60) ∧ (0 ≤ (D.2.2.2.1 (i + (2 : Int))) ∧ (D.2.2.2.1 (i + (2 : Int))) < I 111 (3 : Int)) ∧ ((D.2.2.2.1 (i + (3 : Int))) = -1 ∨ (0 ≤ (D.2.2.2.1 (i + (3 : Int))) ∧ (D.2.2.2.1 (i + (3 : Int))) < I 111 (4 : Int))) ∧ ¬ I 111 (101 : Int) = 10 then pnote (I 111) (D.2.2.2.1 (i + (1 : Int))) (D.2.2.2.1 (i + (2 : Int))) (D.2.2.2.1 (i + (3 : Int))) else (I 111))) L (gG D) c s post) ∧ (¬ (if (D.2.2.2.1 (i + (1 : Int))) = -1 then 0 else if (0 ≤ (D.2.2.2.1 (i + (1 : Int))) ∧ (D.2.2.2.1 (i + (1 : Int))) ≤ 60) ∧ (0 ≤ (D.2.2.2.1 (i + (2 : Int))) ∧ (D.2.2.2.1 (i + (2 : Int))) < I 10 (3 : Int)) ∧ ((D.2.2.2.1 (i + (3 : Int))) = -1 ∨ (0 ≤ (D.2.2.2.1 (i + (3 : Int))) ∧ (D.2.2.2.1 (i + (3 : Int))) < I 10 (4 : Int))) ∧ ¬ I 6 (4 : Int) = 10 then I 6 (4 : Int) + 1 else -2) = (if (D.2.2.2.1 (i + (1 : Int))) = -1 then 0 else if (0 ≤ (D.2.2.2.1 (i + (1 : Int))) ∧ (D.2.2.2.1 (i + (1 : Int))) ≤ 60) ∧ (0 ≤ (D.2.2.2.1 (i + (2 : Int))) ∧ (D.2.2.2.1 (i + (2 : Int))) < I 111 (3 : Int)) ∧ ((D.2.2.2.1 (i + (3 : Int))) = -1 ∨ (0 ≤ (D.2.2.2.1 (i + (3 : Int))) ∧ (D.2.2.2.1 (i + (3 : Int))) < I 111 (4 : Int))) ∧ ¬ I 111 (101 : Int) = 10 then I 111 (101 : Int) + 1 else -2) → post (some (xi (0 : Int))) (xsc (xsc (xsc (xsc (xsc I 6 (xup (I 6) (4 : Int) (if (D.2.2.2.1 (i + (1 : Int))) = -1 then 0 else if (0 ≤ (D.2.2.2.1 (i + (1 : Int))) ∧ (D.2.2.2.1 (i + (1 : Int))) ≤ 60) ∧ (0 ≤ (D.2.2.2.1 (i + (2 : Int))) ∧ (D.2.2.2.1 (i + (2 : Int))) < I 10 (3 : Int)) ∧ ((D.2.2.2.1 (i + (3 : Int))) = -1 ∨ (0 ≤ (D.2.2.2.1 (i + (3 : Int))) ∧ (D.2.2.2.1 (i + (3 : Int))) < I 10 (4 : Int))) ∧ ¬ I 6 (4 : Int) = 10 then I 6 (4 : Int) + 1 else I 6 (4 : Int)))) 7 (if (D.2.2.2.1 (i + (1 : Int))) = -1 then (I 7) else if (0 ≤ (D.2.2.2.1 (i + (1 : Int))) ∧ (D.2.2.2.1 (i + (1 : Int))) ≤ 60) ∧ (0 ≤ (D.2.2.2.1 (i + (2 : Int))) ∧ (D.2.2.2.1 (i + (2 : Int))) < I 10 (3 : Int)) ∧ ((D.2.2.2.1 (i + (3 : Int))) = -1 ∨ (0 ≤ (D.2.2.2.1 (i + (3 : Int))) ∧ (D.2.2.2.1 (i + (3 : Int))) < I 10 (4 : Int))) ∧ ¬ I 6 (4 : Int) = 10 then xup (I 7) (I 6 (4 : Int)) (D.2.2.2.1 (i + (1 : Int))) else (I 7))) 8 (if (D.2.2.2.1 (i + (1 : Int))) = -1 then (I 8) else if (0 ≤ (D.2.2.2.1 (i + (1 : Int))) ∧ (D.2.2.2.1 (i + (1 : Int))) ≤ 60) ∧ (0 ≤ (D.2.2.2.1 (i + (2 : Int))) ∧ (D.2.2.2.1 (i + (2 : Int))) < I 10 (3 : Int)) ∧ ((D.2.2.2.1 (i + (3 : Int))) = -1 ∨ (0 ≤ (D.2.2.2.1 (i + (3 : Int))) ∧ (D.2.2.2.1 (i + (3 : Int))) < I 10 (4 : Int))) ∧ ¬ I 6 (4 : Int) = 10 then xup (I 8) (I 6 (4 : Int)) (D.2.2.2.1 (i + (2 : Int))) else (I 8))) 9 (if (D.2.2.2.1 (i + (1 : Int))) = -1 then (I 9) else if (0 ≤ (D.2.2.2.1 (i + (1 : Int))) ∧ (D.2.2.2.1 (i + (1 : Int))) ≤ 60) ∧ (0 ≤ (D.2.2.2.1 (i + (2 : Int))) ∧ (D.2.2.2.1 (i + (2 : Int))) < I 10 (3 : Int)) ∧ ((D.2.2.2.1 (i + (3 : Int))) = -1 ∨ (0 ≤ (D.2.2.2.1 (i + (3 : Int))) ∧ (D.2.2.2.1 (i + (3 : Int))) < I 10 (4 : Int))) ∧ ¬ I 6 (4 : Int) = 10 then xup (I 9) (I 6 (4 : Int)) (D.2.2.2.1 (i + (3 : Int))) else (I 9))) 111 (if (D.2.2.2.1 (i + (1 : Int))) = -1 then xup (I 111) 101 0 else if (0 ≤ (D.2.2.2.1 (i + (1 : Int))) ∧ (D.2.2.2.1 (i + (1 : Int))) ≤ 60) ∧ (0 ≤ (D.2.2.2.1 (i + (2 : Int))) ∧ (D.2.2.2.1 (i + (2 : Int))) < I 111 (3 : Int)) ∧ ((D.2.2.2.1 (i + (3 : Int))) = -1 ∨ (0 ≤ (D.2.2.2.1 (i + (3 : Int))) ∧ (D.2.2.2.1 (i + (3 : Int))) < I 111 (4 : Int))) ∧ ¬ I 111 (101 : Int) = 10 then pnote (I 111) (D.2.2.2.1 (i + (1 : Int))) (D.2.2.2.1 (i + (2 : Int))) (D.2.2.2.1 (i + (3 : Int))) else (I 111))) L (gG D)))))))))) : xR d 264 es_264 577 [xt 2, xr (some 0), xr (some 101), xi i] [] I L (gG D) c s post := sg_264_577  (⟨h.1, ⟨h.2.1, ⟨h.2.2.1, (xR_cF rfl rfl rfl (c_138 h.2.2.2.1) (by omega) (sg_264_594  ⟨h.1, ⟨h.2.1, ⟨h.2.2.1, (xR_cF rfl rfl rfl (c_248 h.2.2.2.2.1) (by omega) (sg_264_611  ⟨⟨h.2.2.2.2.2.1.1, h.2.2.2.2.2.1.2⟩, ⟨fun q2737 => (h.2.2.2.2.2.2.1 q2737), fun q2738 => ⟨(by decide), (h.2.2.2.2.2.2.2 q2738)⟩⟩⟩))⟩⟩⟩))⟩⟩⟩)
theorem ls_25 {I : XI} {L : XL} {D : GD} {d c s : Nat} {post : XQ} {i : Int} (hd : 9 ≤ d) (hi : 0 ≤ i ∧ i + 6 ≤ (D.2.2.2.2 : Int)) (hsc : ∀ j, xrg (D.2.2.2.1 j)) (hr : REL I D) (hc : ∀ I2 L2, REL I2 D → xR d 264 es_264 10 [xt 2, xr (some 0), xr (some 101), xi (i + 6)] [] I2 L2 (gG D) c s post) : xR d 264 es_264 577 [xt 2, xr (some 0), xr (some 101), xi i] [] I L (gG D) c s post := by
  have hrr := hr.rr
  obtain ⟨h1, h2, h3, h4, h5, h6, ⟨h70, h71, h72, h73⟩, h8⟩ := hr
  have hC := h2.2.1
  have hn := hC.n
  have hg := hC.g
  have htn := hC.turn
  have s1 := hsc (i + 1)
  have s2 := hsc (i + 2)
  have s3 := hsc (i + 3)
  have s4 := hsc (i + 4)
  have hrow := h2.1
  have e0 : I 111 0 = I 10 0 := congrFun hrow 0
  have e1 : I 111 1 = I 16 1 := congrFun hrow 1
  have e2 : I 111 2 = I 10 2 := congrFun hrow 2
  have e3 : I 111 3 = I 10 3 := congrFun hrow 3
  have e4 : I 111 4 = I 10 4 := congrFun hrow 4
  have e10 : I 111 10 = I 16 2 := congrFun hrow 10
  have hS : SO (I 111) := by rw [hrow]; exact hC.1
  have ef : I 101 21 = I 6 2 := h3.2.2.2.1.symm
  have ers : I 101 2 = (D.1 : Int) := h3.2.1
  have erc : I 0 4 = (D.1 : Int) := h3.1
  have hD := h3.2.2.1
  have hfr := h3.2.2.2.2.1
  have ht9 := h2.2.2.1
  have hf0 := hC.f
  have hRf := h3.2.2.2.2.2.1 (I 6 2) hfr.1 hfr.2
  have hRO : RO (I 103) (I 105) (I 106) (I 101 21) := by rw [ef]; exact h3.2.2.2.2.2.2.1 (I 6 2) hfr.1 hfr.2
  have hRO2 : RO (I 103) (I 105) (I 106) (I 6 2) := h3.2.2.2.2.2.2.1 (I 6 2) hfr.1 hfr.2
  have ekk : I 101 23 = 0 := h5.2.2
  have ex : I 101 22 = I 6 3 := h4.1.symm
  have hx := h4.2
  have etp : I 101 1 = I 1 6 := h1.1.symm
  have htp := h1.2.1
  have eun : I 101 25 = I 88 0 := h6.1.symm
  have hun := h6.2.1
  have hnx := h6.2.2.1
  refine lw_25 (by omega) ?_
  have e101 : I 111 101 = I 6 4 := h5.1.2.1.symm
  have hm := h5.1.1
  have hN := h5.2.1
  simp only [e3, e4, e101]
  by_cases hn1 : (D.2.2.2.1 (i + 1)) = -1
  · simp only [if_pos hn1]
    repeat' first | (with_reducible intro _) | (with_reducible refine And.intro ?_ ?_)
    all_goals first | omega | assumption | exact hRf | exact hC | exact hRO2 | (exact absurd rfl (by assumption)) | (exact absurd trivial (by assumption)) | skip
    have hlo : ∀ j, j < 71 → xup (I 111) 101 0 j = I 111 j := fun j hj => xup_ne _ _ (by omega)
    exact hc _ _ ⟨h1, R2_hi h2 hlo, h3, h4, R5_none h5, R6_hi h6 (by omega) hlo, ⟨h70, h71, h72, h73⟩, h8⟩
  · simp only [if_neg hn1]
    by_cases hq : (0 ≤ (D.2.2.2.1 (i + 1)) ∧ (D.2.2.2.1 (i + 1)) ≤ 60) ∧ (0 ≤ (D.2.2.2.1 (i + 2)) ∧ (D.2.2.2.1 (i + 2)) < I 10 3) ∧ ((D.2.2.2.1 (i + 3)) = -1 ∨ 0 ≤ (D.2.2.2.1 (i + 3)) ∧ (D.2.2.2.1 (i + 3)) < I 10 4) ∧ ¬ I 6 4 = 10
    · simp only [if_pos hq]
      repeat' first | (with_reducible intro _) | (with_reducible refine And.intro ?_ ?_)
      all_goals first | omega | assumption | exact hRf | exact hC | exact hRO2 | (exact absurd rfl (by assumption)) | (exact absurd trivial (by assumption)) | skip
      have hlo : ∀ j, j < 71 → pnote (I 111) (D.2.2.2.1 (i + 1)) (D.2.2.2.1 (i + 2)) (D.2.2.2.1 (i + 3)) j = I 111 j := pnote_lo (by omega)
      have g5 := R5_note h5 (n := (D.2.2.2.1 (i + 1))) (s := (D.2.2.2.1 (i + 2))) (g := (D.2.2.2.1 (i + 3))) (by omega) hq.1 hq.2.1 (by omega) hq.2.2.2
      exact hc _ _ ⟨h1, R2_hi h2 hlo, h3, h4, g5, R6_hi h6 (by omega) hlo, ⟨h70, h71, h72, h73⟩, h8⟩
    · simp only [if_neg hq]
      repeat' first | (with_reducible intro _) | (with_reducible refine And.intro ?_ ?_)
      all_goals first | omega | assumption | exact hRf | exact hC | exact hRO2 | (exact absurd rfl (by assumption)) | (exact absurd trivial (by assumption)) | skip
      refine hc _ _ ⟨h1, h2, h3, h4, ?_, h6, ⟨h70, h71, h72, h73⟩, h8⟩
      simp only [xup_self]; exact h5
