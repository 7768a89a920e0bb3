theorem psn_xcp {W P : Int → Int} {k : Int} : xcp W P (16 * k) 10 16 = psn W P k := by
  funext j
  unfold psn
  by_cases q : 10 ≤ j ∧ j < 26
  · rw [if_pos q, xcp_in (by omega)]
  · rw [if_neg q, xcp_out (by omega)]
theorem psn_out {W P : Int → Int} {k j : Int} (h : j < 10 ∨ 26 ≤ j) : psn W P k j = P j := by
  unfold psn
  rw [if_neg (by omega)]
theorem psn_psn {W P : Int → Int} {k i : Int} : psn W (psn W P k) i = psn W P i := by
  funext j
  unfold psn
  by_cases q : 10 ≤ j ∧ j < 26
  · rw [if_pos q, if_pos q]
  · rw [if_neg q, if_neg q, if_neg q]
theorem R6_pop {kp nx un : Int} {A1 A2 A3 W P : Int → Int} (h : R6 kp nx un A1 A2 A3 W P) (hk : 0 < kp) : R6 (kp - 1) (Int.tmod (nx + 20 - 1) 20) (un - 1) A1 A2 A3 W (psn W P (kp - 1)) := by
  obtain ⟨e, hk2, hn, hall⟩ := h
  subst e
  have etm : Int.tmod (nx + 20 - 1) 20 = (nx + 20 - 1) % 20 := Int.tmod_eq_emod_of_nonneg (by omega)
  rw [etm]
  refine ⟨rfl, by omega, by omega, fun i i0 i1 => ?_⟩
  have hh := hall i i0 (by omega)
  have ei : ((nx + 20 - 1) % 20 + 20 - (kp - 1) + i) % 20 = (nx + 20 - kp + i) % 20 := by omega
  rw [ei, psn_psn, psn_psn, psn_out (j := 3) (by omega)]
  rw [if_neg (show ¬ i + 1 = kp by omega)] at hh
  by_cases q : i + 1 = kp - 1
  · rw [if_pos q, ← q]; exact hh
  · rw [if_neg q]; exact hh
theorem cvw_undo {F Kd Z Tr Lk T O U P : Int → Int} {ac o p : Int} (hn : F 3 ≤ 10) (hg : F 4 ≤ 5) (h3 : ac = 3 → (0 ≤ o ∧ o < F 3) ∧ (0 ≤ p ∧ p < F 3)) : cvw F Kd Z Tr Lk (xup T 2 (if ac = 0 then T 2 - 1 else T 2)) (if ac = 0 then (if 0 ≤ o ∧ o < F 3 then xup O o (-1) else O) else if ac = 1 ∨ ac = 2 then (if 0 ≤ o ∧ o < F 3 then xup O o p else O) else if ac = 3 then xup (xup O o (O p)) p (O o) else O) (if ac = 0 ∨ ac = 1 ∨ ac = 2 ∨ ac = 3 then U else if 0 ≤ o ∧ o < F 4 then xup U o p else U) P = pundo ac o p (cvw F Kd Z Tr Lk T O U P) := by
  have e3 : cvw F Kd Z Tr Lk T O U P 3 = F 3 := rfl
  have e4 : cvw F Kd Z Tr Lk T O U P 4 = F 4 := rfl
  have e10 : cvw F Kd Z Tr Lk T O U P 10 = T 2 := rfl
  unfold pundo
  rw [e3, e4, e10]
  by_cases a0 : ac = 0
  · rw [if_pos a0, if_pos a0, if_pos a0, if_pos (Or.inl a0), cvw_setT]
    by_cases q : 0 ≤ o ∧ o < F 3
    · rw [if_pos q, if_pos q, cvw_setO (by omega)]
      funext j
      unfold xup
      by_cases j1 : j = 10
      · rw [if_pos j1, if_neg (show ¬ j = 11 + o by omega), if_pos j1]
      · rw [if_neg j1, if_neg j1]
    · rw [if_neg q, if_neg q]
  rw [if_neg a0, if_neg a0, if_neg a0, xup_self]
  by_cases a1 : ac = 1 ∨ ac = 2
  · rw [if_pos a1, if_pos a1, if_pos (show ac = 0 ∨ ac = 1 ∨ ac = 2 ∨ ac = 3 by omega)]
    by_cases q : 0 ≤ o ∧ o < F 3
    · rw [if_pos q, if_pos q, cvw_setO (by omega)]
    · rw [if_neg q, if_neg q]
  rw [if_neg a1, if_neg a1]
  by_cases a3 : ac = 3
  · have hh := h3 a3
    rw [if_pos a3, if_pos a3, if_pos (show ac = 0 ∨ ac = 1 ∨ ac = 2 ∨ ac = 3 by omega), cvw_setO (by omega), cvw_setO (by omega), cvw_o (by omega), cvw_o (by omega)]
  rw [if_neg a3, if_neg a3, if_neg (show ¬ (ac = 0 ∨ ac = 1 ∨ ac = 2 ∨ ac = 3) by omega)]
  by_cases q : 0 ≤ o ∧ o < F 4
  · rw [if_pos q, if_pos q, cvw_setU q (by omega)]
  · rw [if_neg q, if_neg q]
set_option maxRecDepth 8000 in
theorem sg_264_276 {d : Nat} {I : XI} {L : XL} {D : GD} {post : XQ} {c s : Nat} {u3 : Int} (h : xR d 264 es_264 277 [xt 2, xr (some 0), xr (some 101), xi u3] [xr (some 0)] I L (gG D) c s post) : xR d 264 es_264 276 [xt 2, xr (some 0), xr (some 101), xi u3] [] I L (gG D) c s post := xW_R (fun k => Nat.beq k 2 || Nat.beq k 6 || Nat.beq k 10 || Nat.beq k 48 || Nat.beq k 75 || Nat.beq k 85 || Nat.beq k 92 || Nat.beq k 97 || Nat.beq k 99 || Nat.beq k 104 || Nat.beq k 106 || Nat.beq k 116 || Nat.beq k 123 || Nat.beq k 138 || Nat.beq k 150 || Nat.beq k 165 || Nat.beq k 177 || Nat.beq k 182 || Nat.beq k 184 || Nat.beq k 199 || Nat.beq k 211 || Nat.beq k 221 || Nat.beq k 228 || Nat.beq k 243 || Nat.beq k 255 || Nat.beq k 265 || Nat.beq k 272 || Nat.beq k 277 || Nat.beq k 279 || Nat.beq k 299 || Nat.beq k 316 || Nat.beq k 321 || Nat.beq k 323 || Nat.beq k 328 || Nat.beq k 330 || Nat.beq k 345 || Nat.beq k 357 || Nat.beq k 367 || Nat.beq k 374 || Nat.beq k 384 || Nat.beq k 391 || Nat.beq k 401 || Nat.beq k 408 || Nat.beq k 428 || Nat.beq k 445 || Nat.beq k 460 || Nat.beq k 472 || Nat.beq k 487 || Nat.beq k 499 || Nat.beq k 524 || Nat.beq k 546 || Nat.beq k 561 || Nat.beq k 573 || Nat.beq k 593 || Nat.beq k 610 || Nat.beq k 620 || Nat.beq k 627 || Nat.beq k 642 || Nat.beq k 654 || Nat.beq k 664 || Nat.beq k 671 || Nat.beq k 696 || Nat.beq k 718 || Nat.beq k 728 || Nat.beq k 735 || Nat.beq k 745 || Nat.beq k 752 || Nat.beq k 762 || Nat.beq k 769) 1 _ _ _ _ _ _ _ _ _ _ _ _ h
set_option maxRecDepth 8000 in
theorem sg_264_278 {d : Nat} {I : XI} {L : XL} {D : GD} {post : XQ} {c s : Nat} {u3 : Int} {w0 : Int} (h : xR d 264 es_264 279 [xt 2, xr (some 0), xr (some 101), xi u3] [xr (some 101), xi w0] I L (gG D) c s post) : xR d 264 es_264 278 [xt 2, xr (some 0), xr (some 101), xi u3] [xi w0] I L (gG D) c s post := xW_R (fun k => Nat.beq k 2 || Nat.beq k 6 || Nat.beq k 10 || Nat.beq k 48 || Nat.beq k 75 || Nat.beq k 85 || Nat.beq k 92 || Nat.beq k 97 || Nat.beq k 99 || Nat.beq k 104 || Nat.beq k 106 || Nat.beq k 116 || Nat.beq k 123 || Nat.beq k 138 || Nat.beq k 150 || Nat.beq k 165 || Nat.beq k 177 || Nat.beq k 182 || Nat.beq k 184 || Nat.beq k 199 || Nat.beq k 211 || Nat.beq k 221 || Nat.beq k 228 || Nat.beq k 243 || Nat.beq k 255 || Nat.beq k 265 || Nat.beq k 272 || Nat.beq k 277 || Nat.beq k 279 || Nat.beq k 299 || Nat.beq k 316 || Nat.beq k 321 || Nat.beq k 323 || Nat.beq k 328 || Nat.beq k 330 || Nat.beq k 345 || Nat.beq k 357 || Nat.beq k 367 || Nat.beq k 374 || Nat.beq k 384 || Nat.beq k 391 || Nat.beq k 401 || Nat.beq k 408 || Nat.beq k 428 || Nat.beq k 445 || Nat.beq k 460 || Nat.beq k 472 || Nat.beq k 487 || Nat.beq k 499 || Nat.beq k 524 || Nat.beq k 546 || Nat.beq k 561 || Nat.beq k 573 || Nat.beq k 593 || Nat.beq k 610 || Nat.beq k 620 || Nat.beq k 627 || Nat.beq k 642 || Nat.beq k 654 || Nat.beq k 664 || Nat.beq k 671 || Nat.beq k 696 || Nat.beq k 718 || Nat.beq k 728 || Nat.beq k 735 || Nat.beq k 745 || Nat.beq k 752 || Nat.beq k 762 || Nat.beq k 769) 1 _ _ _ _ _ _ _ _ _ _ _ _ h
set_option maxRecDepth 8000 in
theorem sg_264_280 {d : Nat} {I : XI} {L : XL} {D : GD} {post : XQ} {c s : Nat} {u3 : Int} {w0 : Int} {w1 : Int} (h : (((-2147483648 ≤ w0 ∧ w0 ≤ 2147483647) ∧ (-2147483648 ≤ w1 ∧ w1 ≤ 2147483647)) ∧ ((w0 = w1 → xR d 264 es_264 10 [xt 2, xr (some 0), xr (some 101), xi (u3 + (6 : Int))] [] I L (gG D) c s post) ∧ (¬ w0 = w1 → (((0 : Int) = 0 ∨ (0 : Int) = 1) ∧ post (some (xi (0 : Int))) I L (gG D)))))) : xR d 264 es_264 280 [xt 2, xr (some 0), xr (some 101), xi u3] [xi w1, xi w0] I L (gG D) c s post := xW_R (fun k => Nat.beq k 2 || Nat.beq k 6 || Nat.beq k 10 || Nat.beq k 48 || Nat.beq k 75 || Nat.beq k 85 || Nat.beq k 92 || Nat.beq k 97 || Nat.beq k 99 || Nat.beq k 104 || Nat.beq k 106 || Nat.beq k 116 || Nat.beq k 123 || Nat.beq k 138 || Nat.beq k 150 || Nat.beq k 165 || Nat.beq k 177 || Nat.beq k 182 || Nat.beq k 184 || Nat.beq k 199 || Nat.beq k 211 || Nat.beq k 221 || Nat.beq k 228 || Nat.beq k 243 || Nat.beq k 255 || Nat.beq k 265 || Nat.beq k 272 || Nat.beq k 277 || Nat.beq k 279 || Nat.beq k 299 || Nat.beq k 316 || Nat.beq k 321 || Nat.beq k 323 || Nat.beq k 328 || Nat.beq k 330 || Nat.beq k 345 || Nat.beq k 357 || Nat.beq k 367 || Nat.beq k 374 || Nat.beq k 384 || Nat.beq k 391 || Nat.beq k 401 || Nat.beq k 408 || Nat.beq k 428 || Nat.beq k 445 || Nat.beq k 460 || Nat.beq k 472 || Nat.beq k 487 || Nat.beq k 499 || Nat.beq k 524 || Nat.beq k 546 || Nat.beq k 561 || Nat.beq k 573 || Nat.beq k 593 || Nat.beq k 610 || Nat.beq k 620 || Nat.beq k 627 || Nat.beq k 642 || Nat.beq k 654 || Nat.beq k 664 || Nat.beq k 671 || Nat.beq k 696 || Nat.beq k 718 || Nat.beq k 728 || Nat.beq k 735 || Nat.beq k 745 || Nat.beq k 752 || Nat.beq k 762 || Nat.beq k 769) 3 _ _ _ _ _ _ _ _ _ _ _ _ h
set_option maxRecDepth 8000 in
theorem lw_12 {d : Nat} {I : XI} {L : XL} {D : GD} {post : XQ}  {c s : Nat} {i : Int} (hd : 5 ≤ d) (h : (((0 ≤ I 88 (0 : Int) ∧ I 88 (0 : Int) ≤ 20) ∧ (0 ≤ I 88 (1 : Int) ∧ I 88 (1 : Int) < 20) ∧ (0 < I 88 (0 : Int) → (CO (I 10) (I 11) (I 12) (I 13) (I 14) (I 15) (I 16) (I 17) (I 18) (I 111) ∧ (-2147483648 ≤ (I 89 (Int.tmod (I 88 (1 : Int) + 20 - 1) 20)) ∧ (I 89 (Int.tmod (I 88 (1 : Int) + 20 - 1) 20)) ≤ 2147483647) ∧ (-2147483648 ≤ (I 90 (Int.tmod (I 88 (1 : Int) + 20 - 1) 20)) ∧ (I 90 (Int.tmod (I 88 (1 : Int) + 20 - 1) 20)) ≤ 2147483647) ∧ (-2147483648 ≤ (I 91 (Int.tmod (I 88 (1 : Int) + 20 - 1) 20)) ∧ (I 91 (Int.tmod (I 88 (1 : Int) + 20 - 1) 20)) ≤ 2147483647) ∧ ((I 89 (Int.tmod (I 88 (1 : Int) + 20 - 1) 20)) = 3 → (0 ≤ (I 90 (Int.tmod (I 88 (1 : Int) + 20 - 1) 20)) ∧ (I 90 (Int.tmod (I 88 (1 : Int) + 20 - 1) 20)) < I 10 (3 : Int)) ∧ (0 ≤ (I 91 (Int.tmod (I 88 (1 : Int) + 20 - 1) 20)) ∧ (I 91 (Int.tmod (I 88 (1 : Int) + 20 - 1) 20)) < I 10 (3 : Int)))))) ∧ ((0 ≤ I 101 (25 : Int) ∧ I 101 (25 : Int) ≤ 20) ∧ (((-2147483648 ≤ (if 0 < I 88 (0 : Int) then I 88 (0 : Int) - 1 else -1) ∧ (if 0 < I 88 (0 : Int) then I 88 (0 : Int) - 1 else -1) ≤ 2147483647) ∧ (-2147483648 ≤ (if I 101 (25 : Int) = 0 then -1 else I 101 (25 : Int) - 1) ∧ (if I 101 (25 : Int) = 0 then -1 else I 101 (25 : Int) - 1) ≤ 2147483647)) ∧ (((if 0 < I 88 (0 : Int) then I 88 (0 : Int) - 1 else -1) = (if I 101 (25 : Int) = 0 then -1 else I 101 (25 : Int) - 1) → xR d 264 es_264 10 [xt 2, xr (some 0), xr (some 101), xi (i + (6 : Int))] [] (xsc (xsc (xsc (xsc (xsc (xsc I 16 (xup (I 16) (2 : Int) (if 0 < I 88 (0 : Int) then (if (I 89 (Int.tmod (I 88 (1 : Int) + 20 - 1) 20)) = 0 then I 16 (2 : Int) - 1 else I 16 (2 : Int)) else I 16 (2 : Int)))) 17 (if 0 < I 88 (0 : Int) then (if (I 89 (Int.tmod (I 88 (1 : Int) + 20 - 1) 20)) = 0 then (if (0 ≤ (I 90 (Int.tmod (I 88 (1 : Int) + 20 - 1) 20)) ∧ (I 90 (Int.tmod (I 88 (1 : Int) + 20 - 1) 20)) < I 10 (3 : Int)) then xup (I 17) (I 90 (Int.tmod (I 88 (1 : Int) + 20 - 1) 20)) (-1) else (I 17)) else if (I 89 (Int.tmod (I 88 (1 : Int) + 20 - 1) 20)) = 1 ∨ (I 89 (Int.tmod (I 88 (1 : Int) + 20 - 1) 20)) = 2 then (if (0 ≤ (I 90 (Int.tmod (I 88 (1 : Int) + 20 - 1) 20)) ∧ (I 90 (Int.tmod (I 88 (1 : Int) + 20 - 1) 20)) < I 10 (3 : Int)) then xup (I 17) (I 90 (Int.tmod (I 88 (1 : Int) + 20 - 1) 20)) (I 91 (Int.tmod (I 88 (1 : Int) + 20 - 1) 20)) else (I 17)) else if (I 89 (Int.tmod (I 88 (1 : Int) + 20 - 1) 20)) = 3 then xup (xup (I 17) (I 90 (Int.tmod (I 88 (1 : Int) + 20 - 1) 20)) (I 17 (I 91 (Int.tmod (I 88 (1 : Int) + 20 - 1) 20)))) (I 91 (Int.tmod (I 88 (1 : Int) + 20 - 1) 20)) (I 17 (I 90 (Int.tmod (I 88 (1 : Int) + 20 - 1) 20))) else (I 17)) else (I 17))) 18 (if 0 < I 88 (0 : Int) then (if (I 89 (Int.tmod (I 88 (1 : Int) + 20 - 1) 20)) = 0 ∨ (I 89 (Int.tmod (I 88 (1 : Int) + 20 - 1) 20)) = 1 ∨ (I 89 (Int.tmod (I 88 (1 : Int) + 20 - 1) 20)) = 2 ∨ (I 89 (Int.tmod (I 88 (1 : Int) + 20 - 1) 20)) = 3 then (I 18) else if (0 ≤ (I 90 (Int.tmod (I 88 (1 : Int) + 20 - 1) 20)) ∧ (I 90 (Int.tmod (I 88 (1 : Int) + 20 - 1) 20)) < I 10 (4 : Int)) then xup (I 18) (I 90 (Int.tmod (I 88 (1 : Int) + 20 - 1) 20)) (I 91 (Int.tmod (I 88 (1 : Int) + 20 - 1) 20)) else (I 18)) else (I 18))) 88 (xup (xup (I 88) (0 : Int) (if 0 < I 88 (0 : Int) then I 88 (0 : Int) - 1 else I 88 (0 : Int))) (1 : Int) (if 0 < I 88 (0 : Int) then Int.tmod (I 88 (1 : Int) + 20 - 1) 20 else I 88 (1 : Int)))) 101 (xup (I 101) (25 : Int) (if I 101 (25 : Int) = 0 then 0 else I 101 (25 : Int) - 1))) 111 (if I 101 (25 : Int) = 0 then (I 111) else xcp (I 112) (I 111) (16 * (I 101 (25 : Int) - 1)) 10 16)) L (gG D) c s post) ∧ (¬ (if 0 < I 88 (0 : Int) then I 88 (0 : Int) - 1 else -1) = (if I 101 (25 : Int) = 0 then -1 else I 101 (25 : Int) - 1) → post (some (xi (0 : Int))) (xsc (xsc (xsc (xsc (xsc (xsc I 16 (xup (I 16) (2 : Int) (if 0 < I 88 (0 : Int) then (if (I 89 (Int.tmod (I 88 (1 : Int) + 20 - 1) 20)) = 0 then I 16 (2 : Int) - 1 else I 16 (2 : Int)) else I 16 (2 : Int)))) 17 (if 0 < I 88 (0 : Int) then (if (I 89 (Int.tmod (I 88 (1 : Int) + 20 - 1) 20)) = 0 then (if (0 ≤ (I 90 (Int.tmod (I 88 (1 : Int) + 20 - 1) 20)) ∧ (I 90 (Int.tmod (I 88 (1 : Int) + 20 - 1) 20)) < I 10 (3 : Int)) then xup (I 17) (I 90 (Int.tmod (I 88 (1 : Int) + 20 - 1) 20)) (-1) else (I 17)) else if (I 89 (Int.tmod (I 88 (1 : Int) + 20 - 1) 20)) = 1 ∨ (I 89 (Int.tmod (I 88 (1 : Int) + 20 - 1) 20)) = 2 then (if (0 ≤ (I 90 (Int.tmod (I 88 (1 : Int) + 20 - 1) 20)) ∧ (I 90 (Int.tmod (I 88 (1 : Int) + 20 - 1) 20)) < I 10 (3 : Int)) then xup (I 17) (I 90 (Int.tmod (I 88 (1 : Int) + 20 - 1) 20)) (I 91 (Int.tmod (I 88 (1 : Int) + 20 - 1) 20)) else (I 17)) else if (I 89 (Int.tmod (I 88 (1 : Int) + 20 - 1) 20)) = 3 then xup (xup (I 17) (I 90 (Int.tmod (I 88 (1 : Int) + 20 - 1) 20)) (I 17 (I 91 (Int.tmod (I 88 (1 : Int) + 20 - 1) 20)))) (I 91 (Int.tmod (I 88 (1 : Int) + 20 - 1) 20)) (I 17 (I 90 (Int.tmod (I 88 (1 : Int) + 20 - 1) 20))) else (I 17)) else (I 17))) 18 (if 0 < I 88 (0 : Int) then (if (I 89 (Int.tmod (I 88 (1 : Int) + 20 - 1) 20)) = 0 ∨ (I 89 (Int.tmod (I 88 (1 : Int) + 20 - 1) 20)) = 1 ∨ (I 89 (Int.tmod (I 88 (1 : Int) + 20 - 1) 20)) = 2 ∨ (I 89 (Int.tmod (I 88 (1 : Int) + 20 - 1) 20)) = 3 then (I 18) else if (0 ≤ (I 90 (Int.tmod (I 88 (1 : Int) + 20 - 1) 20)) ∧ (I 90 (Int.tmod (I 88 (1 : Int) + 20 - 1) 20)) < I 10 (4 : Int)) then xup (I 18) (I 90 (Int.tmod (I 88 (1 : Int) + 20 - 1) 20)) (I 91 (Int.tmod (I 88 (1 : Int) + 20 - 1) 20)) else (I 18)) else (I 18))) 88 (xup (xup (I 88) (0 : Int) (if 0 < I 88 (0 : Int) then I 88 (0 : Int) - 1 else I 88 (0 : Int))) (1 : Int) (if 0 < I 88 (0 : Int) then Int.tmod (I 88 (1 : Int) + 20 - 1) 20 else I 88 (1 : Int)))) 101 (xup (I 101) (25 : Int) (if I 101 (25 : Int) = 0 then 0 else I 101 (25 : Int) - 1))) 111 (if I 101 (25 : Int) = 0 then (I 111) else xcp (I 112) (I 111) (16 * (I 101 (25 : Int) - 1)) 10 16)) L (gG D))))))) : xR d 264 es_264 276 [xt 2, xr (some 0), xr (some 101), xi i] [] I L (gG D) c s post := sg_264_276  ((xR_cF rfl rfl rfl (c_125 h.1) (by omega) (sg_264_278  (xR_cF rfl rfl rfl (c_212 h.2.1) (by omega) (sg_264_280  ⟨⟨h.2.2.1.1, h.2.2.1.2⟩, ⟨fun q2735 => (xR_memc (h.2.2.2.1 q2735) (funext fun i => (xpt rfl (fun h111_ => (xpt rfl (fun h101_ => (xpt rfl (fun h88_ => (xpt rfl (fun h18_ => (xpt rfl (fun h17_ => (xpt rfl (fun h16_ => (by simp only [xsc_ne _ _ h16_, xwr_ne _ _ _ h16_, xsc_ne _ _ h17_, xwr_ne _ _ _ h17_, xsc_ne _ _ h18_, xwr_ne _ _ _ h18_, xsc_ne _ _ h88_, xwr_ne _ _ _ h88_, xsc_ne _ _ h101_, xwr_ne _ _ _ h101_, xsc_ne _ _ h111_, xwr_ne _ _ _ h111_])))))))))))))) rfl), fun q2736 => ⟨(by decide), (xpost (h.2.2.2.2 q2736) (funext fun i => (xpt rfl (fun h111_ => (xpt rfl (fun h101_ => (xpt rfl (fun h88_ => (xpt rfl (fun h18_ => (xpt rfl (fun h17_ => (xpt rfl (fun h16_ => (by simp only [xsc_ne _ _ h16_, xwr_ne _ _ _ h16_, xsc_ne _ _ h17_, xwr_ne _ _ _ h17_, xsc_ne _ _ h18_, xwr_ne _ _ _ h18_, xsc_ne _ _ h88_, xwr_ne _ _ _ h88_, xsc_ne _ _ h101_, xwr_ne _ _ _ h101_, xsc_ne _ _ h111_, xwr_ne _ _ _ h111_])))))))))))))) rfl)⟩⟩⟩)))))
theorem ls_12 {I : XI} {L : XL} {D : GD} {d c s : Nat} {post : XQ} {i : Int} (hd : 9 ≤ d) (hi : 0 ≤ i ∧ i + 6 ≤ (D.2.2.2.2 : Int)) (hsc : ∀ j, xrg (D.2.2.2.1 j)) (hr : REL I D) (hc : ∀ I2 L2, REL I2 D → xR d 264 es_264 10 [xt 2, xr (some 0), xr (some 101), xi (i + 6)] [] I2 L2 (gG D) c s post) : xR d 264 es_264 276 [xt 2, xr (some 0), xr (some 101), xi i] [] I L (gG D) c s post := by
  have hrr := hr.rr
  obtain ⟨h1, h2, h3, h4, h5, h6, ⟨h70, h71, h72, h73⟩, h8⟩ := hr
  have hC := h2.2.1
  have hn := hC.n
  have hg := hC.g
  have htn := hC.turn
  have s1 := hsc (i + 1)
  have s2 := hsc (i + 2)
  have s3 := hsc (i + 3)
  have s4 := hsc (i + 4)
  have hrow := h2.1
  have e0 : I 111 0 = I 10 0 := congrFun hrow 0
  have e1 : I 111 1 = I 16 1 := congrFun hrow 1
  have e2 : I 111 2 = I 10 2 := congrFun hrow 2
  have e3 : I 111 3 = I 10 3 := congrFun hrow 3
  have e4 : I 111 4 = I 10 4 := congrFun hrow 4
  have e10 : I 111 10 = I 16 2 := congrFun hrow 10
  have hS : SO (I 111) := by rw [hrow]; exact hC.1
  have ef : I 101 21 = I 6 2 := h3.2.2.2.1.symm
  have ers : I 101 2 = (D.1 : Int) := h3.2.1
  have erc : I 0 4 = (D.1 : Int) := h3.1
  have hD := h3.2.2.1
  have hfr := h3.2.2.2.2.1
  have ht9 := h2.2.2.1
  have hf0 := hC.f
  have hRf := h3.2.2.2.2.2.1 (I 6 2) hfr.1 hfr.2
  have hRO : RO (I 103) (I 105) (I 106) (I 101 21) := by rw [ef]; exact h3.2.2.2.2.2.2.1 (I 6 2) hfr.1 hfr.2
  have hRO2 : RO (I 103) (I 105) (I 106) (I 6 2) := h3.2.2.2.2.2.2.1 (I 6 2) hfr.1 hfr.2
  have ekk : I 101 23 = 0 := h5.2.2
  have ex : I 101 22 = I 6 3 := h4.1.symm
  have hx := h4.2
  have etp : I 101 1 = I 1 6 := h1.1.symm
  have htp := h1.2.1
  have eun : I 101 25 = I 88 0 := h6.1.symm
  have hun := h6.2.1
  have hnx := h6.2.2.1
  have eo := fun s (h0 : 0 ≤ s) (h1 : s < 10) => ((congrFun hrow (11 + s)).trans (cvw_o ⟨h0, h1⟩))
  refine lw_12 (by omega) ?_
  have etm : Int.tmod (I 88 1 + 20 - 1) 20 = (I 88 1 + 20 - 1) % 20 := Int.tmod_eq_emod_of_nonneg (by omega)
  simp only [eun]
  by_cases hq : 0 < I 88 0
  · simp only [if_pos hq, if_neg (show ¬ I 88 0 = 0 by omega)]
    have hh := h6.2.2.2 (I 88 0 - 1) (by omega) (by omega)
    rw [if_pos (show I 88 0 - 1 + 1 = I 88 0 by omega), show (I 88 1 + 20 - I 88 0 + (I 88 0 - 1)) % 20 = Int.tmod (I 88 1 + 20 - 1) 20 by rw [etm]; omega, e3] at hh
    obtain ⟨hs1, hs2, hs3, hs4, hs5, hs6, hs7⟩ := hh
    repeat' first | (with_reducible intro _) | (with_reducible refine And.intro ?_ ?_)
    all_goals first | omega | assumption | exact hRf | exact hC | exact hRO2 | (exact absurd rfl (by assumption)) | (exact absurd trivial (by assumption)) | skip
    all_goals first | (exact (hs7 (by assumption)).1.1) | (exact (hs7 (by assumption)).1.2) | (exact (hs7 (by assumption)).2.1) | (exact (hs7 (by assumption)).2.2) | skip
    have hcu := cvw_undo (F := I 10) (Kd := I 11) (Z := I 12) (Tr := I 13) (Lk := I 14) (T := I 16) (O := I 17) (U := I 18) (P := I 111) (by omega) (by omega) hs7
    rw [← hrow, ← hs3] at hcu
    have hout : ∀ j, (j < 10 ∨ 26 ≤ j) → psn (I 112) (I 111) (I 88 0 - 1) j = I 111 j := fun j hj => psn_out hj
    have h10 := congrFun hcu 10
    have hsx := hs1
    rw [← hcu] at hsx
    refine hc _ _ ⟨h1, ?_, h3, h4, ?_, ?_, ⟨h70, h71, h72, h73⟩, h8⟩
    · simp only [psn_xcp]
      exact R2_act hcu.symm ⟨hsx, hC.2⟩ hout (by rw [← h10] at hs2; exact hs2) h2.2.2.2
    · simp only [psn_xcp]
      exact R5_act h5 hout
    · simp only [psn_xcp]
      have g6 : R6 (I 88 0) (I 88 1) (I 88 0) (I 89) (I 90) (I 91) (I 112) (I 111) := ⟨rfl, h6.2⟩
      exact R6_pop g6 hq
  · simp only [if_neg hq, if_pos (show I 88 0 = 0 by omega)]
    repeat' first | (with_reducible intro _) | (with_reducible refine And.intro ?_ ?_)
    all_goals first | omega | assumption | exact hRf | exact hC | exact hRO2 | (exact absurd rfl (by assumption)) | (exact absurd trivial (by assumption)) | skip
    refine hc _ _ ⟨h1, ?_, h3, h4, ?_, ?_, ⟨h70, h71, h72, h73⟩, h8⟩
    · simp only [xup_self]; exact h2
    · simp only [xup_self]; exact h5
    · simp only [xup_self]
      have e0 : I 88 0 = 0 := by omega
      exact ⟨e0, h6.2⟩
