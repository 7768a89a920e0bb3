theorem qfair_rg {a : Int → Int} (h : SO a) (hb : pbits (pslices a (-1)) ≤ 6) (w : Int) : -2 ≤ qfair a w ∧ qfair a w ≤ 15625 := by
  have h1 := pfa_rg a (pslices a (-1)) (pcodes a (pslices a (-1)))
  have h2 := pcodes_le h hb
  have hg := h.g
  have h3 : ∀ n : Nat, n ≤ pcodes a (pslices a (-1)) → SO (pfa a (pslices a (-1)) n).2 ∧ (pfa a (pslices a (-1)) n).2 4 = a 4 := by
    have hbr := pslices_rg h (-1)
    have hz : 0 < pcodes a (pslices a (-1)) → ∀ n : Nat, (n : Int) < a 3 → xand (xshr (pslices a (-1)) (n : Int)) 1 = 1 → 0 < a 4 := by
      intro q n h3 h4
      have hn := h.n
      have hp := bit_pos hbr.1 hbr.2 (n := n) (by omega) h4
      refine Classical.byContradiction fun q2 => ?_
      have e0 : (a 4).toNat = 0 := by omega
      unfold pcodes at q
      rw [e0, Nat.zero_pow (by omega)] at q
      omega
    intro n
    induction n with
    | zero => intro _; exact ⟨h, rfl⟩
    | succ n ih =>
      intro hn
      have i1 := ih (by omega)
      obtain ⟨p1, p2, _⟩ := pgT_so (c := n) h (hz (by omega)) (a 3).toNat (Nat.le_refl _)
      show SO (pfs a (pslices a (-1)) n (pfa a (pslices a (-1)) n)).2 ∧ (pfs a (pslices a (-1)) n (pfa a (pslices a (-1)) n)).2 4 = a 4
      unfold pfs
      split
      · show SO (if (pfa a (pslices a (-1)) n).1 = 0 then (pgT a (pslices a (-1)) n (a 3).toNat).2 else (pfa a (pslices a (-1)) n).2) ∧ (if (pfa a (pslices a (-1)) n).1 = 0 then (pgT a (pslices a (-1)) n (a 3).toNat).2 else (pfa a (pslices a (-1)) n).2) 4 = a 4
        split
        · exact ⟨p1, p2 4 (by omega)⟩
        · exact i1
      · exact i1
  have h4 := h3 _ (Nat.le_refl _)
  unfold qfair
  split
  · omega
  · split
    · omega
    · rename_i q1 q2
      have hn := h.n
      have q3 : 0 ≤ w ∧ w < a 3 := Classical.byContradiction fun r => q2 (Or.inr (Or.inl r))
      have := h4.1.w (s := w) q3.1 (by omega)
      omega
set_option maxRecDepth 8000 in
theorem sg_264_395 {d : Nat} {I : XI} {L : XL} {D : GD} {post : XQ} {c s : Nat} {u3 : Int} (h : ((0 ≤ (u3 + (1 : Int)) ∧ (u3 + (1 : Int)) < (D.2.2.2.2 : Int)) ∧ xR d 264 es_264 401 [xt 2, xr (some 0), xr (some 101), xi u3] [xi (D.2.2.2.1 (u3 + (1 : Int))), xr (some 0)] I L (gG D) c s post)) : xR d 264 es_264 395 [xt 2, xr (some 0), xr (some 101), xi u3] [] I L (gG D) c s post := xW_R (fun k => Nat.beq k 2 || Nat.beq k 6 || Nat.beq k 10 || Nat.beq k 48 || Nat.beq k 75 || Nat.beq k 85 || Nat.beq k 92 || Nat.beq k 97 || Nat.beq k 99 || Nat.beq k 104 || Nat.beq k 106 || Nat.beq k 116 || Nat.beq k 123 || Nat.beq k 138 || Nat.beq k 150 || Nat.beq k 165 || Nat.beq k 177 || Nat.beq k 182 || Nat.beq k 184 || Nat.beq k 199 || Nat.beq k 211 || Nat.beq k 221 || Nat.beq k 228 || Nat.beq k 243 || Nat.beq k 255 || Nat.beq k 265 || Nat.beq k 272 || Nat.beq k 277 || Nat.beq k 279 || Nat.beq k 299 || Nat.beq k 316 || Nat.beq k 321 || Nat.beq k 323 || Nat.beq k 328 || Nat.beq k 330 || Nat.beq k 345 || Nat.beq k 357 || Nat.beq k 367 || Nat.beq k 374 || Nat.beq k 384 || Nat.beq k 391 || Nat.beq k 401 || Nat.beq k 408 || Nat.beq k 428 || Nat.beq k 445 || Nat.beq k 460 || Nat.beq k 472 || Nat.beq k 487 || Nat.beq k 499 || Nat.beq k 524 || Nat.beq k 546 || Nat.beq k 561 || Nat.beq k 573 || Nat.beq k 593 || Nat.beq k 610 || Nat.beq k 620 || Nat.beq k 627 || Nat.beq k 642 || Nat.beq k 654 || Nat.beq k 664 || Nat.beq k 671 || Nat.beq k 696 || Nat.beq k 718 || Nat.beq k 728 || Nat.beq k 735 || Nat.beq k 745 || Nat.beq k 752 || Nat.beq k 762 || Nat.beq k 769) 6 _ _ _ _ _ _ _ _ _ _ _ _ h
set_option maxRecDepth 8000 in
theorem sg_264_402 {d : Nat} {I : XI} {L : XL} {D : GD} {post : XQ} {c s : Nat} {u3 : Int} {w0 : Int} (h : ((0 ≤ (u3 + (1 : Int)) ∧ (u3 + (1 : Int)) < (D.2.2.2.2 : Int)) ∧ xR d 264 es_264 408 [xt 2, xr (some 0), xr (some 101), xi u3] [xi (D.2.2.2.1 (u3 + (1 : Int))), xr (some 101), xi w0] I L (gG D) c s post)) : xR d 264 es_264 402 [xt 2, xr (some 0), xr (some 101), xi u3] [xi w0] I L (gG D) c s post := xW_R (fun k => Nat.beq k 2 || Nat.beq k 6 || Nat.beq k 10 || Nat.beq k 48 || Nat.beq k 75 || Nat.beq k 85 || Nat.beq k 92 || Nat.beq k 97 || Nat.beq k 99 || Nat.beq k 104 || Nat.beq k 106 || Nat.beq k 116 || Nat.beq k 123 || Nat.beq k 138 || Nat.beq k 150 || Nat.beq k 165 || Nat.beq k 177 || Nat.beq k 182 || Nat.beq k 184 || Nat.beq k 199 || Nat.beq k 211 || Nat.beq k 221 || Nat.beq k 228 || Nat.beq k 243 || Nat.beq k 255 || Nat.beq k 265 || Nat.beq k 272 || Nat.beq k 277 || Nat.beq k 279 || Nat.beq k 299 || Nat.beq k 316 || Nat.beq k 321 || Nat.beq k 323 || Nat.beq k 328 || Nat.beq k 330 || Nat.beq k 345 || Nat.beq k 357 || Nat.beq k 367 || Nat.beq k 374 || Nat.beq k 384 || Nat.beq k 391 || Nat.beq k 401 || Nat.beq k 408 || Nat.beq k 428 || Nat.beq k 445 || Nat.beq k 460 || Nat.beq k 472 || Nat.beq k 487 || Nat.beq k 499 || Nat.beq k 524 || Nat.beq k 546 || Nat.beq k 561 || Nat.beq k 573 || Nat.beq k 593 || Nat.beq k 610 || Nat.beq k 620 || Nat.beq k 627 || Nat.beq k 642 || Nat.beq k 654 || Nat.beq k 664 || Nat.beq k 671 || Nat.beq k 696 || Nat.beq k 718 || Nat.beq k 728 || Nat.beq k 735 || Nat.beq k 745 || Nat.beq k 752 || Nat.beq k 762 || Nat.beq k 769) 6 _ _ _ _ _ _ _ _ _ _ _ _ h
set_option maxRecDepth 8000 in
theorem sg_264_409 {d : Nat} {I : XI} {L : XL} {D : GD} {post : XQ} {c s : Nat} {u3 : Int} {w0 : Int} {w1 : Int} (h : (((-2147483648 ≤ w0 ∧ w0 ≤ 2147483647) ∧ (-2147483648 ≤ w1 ∧ w1 ≤ 2147483647)) ∧ ((w0 = w1 → xR d 264 es_264 10 [xt 2, xr (some 0), xr (some 101), xi (u3 + (6 : Int))] [] I L (gG D) c s post) ∧ (¬ w0 = w1 → (((0 : Int) = 0 ∨ (0 : Int) = 1) ∧ post (some (xi (0 : Int))) I L (gG D)))))) : xR d 264 es_264 409 [xt 2, xr (some 0), xr (some 101), xi u3] [xi w1, xi w0] I L (gG D) c s post := xW_R (fun k => Nat.beq k 2 || Nat.beq k 6 || Nat.beq k 10 || Nat.beq k 48 || Nat.beq k 75 || Nat.beq k 85 || Nat.beq k 92 || Nat.beq k 97 || Nat.beq k 99 || Nat.beq k 104 || Nat.beq k 106 || Nat.beq k 116 || Nat.beq k 123 || Nat.beq k 138 || Nat.beq k 150 || Nat.beq k 165 || Nat.beq k 177 || Nat.beq k 182 || Nat.beq k 184 || Nat.beq k 199 || Nat.beq k 211 || Nat.beq k 221 || Nat.beq k 228 || Nat.beq k 243 || Nat.beq k 255 || Nat.beq k 265 || Nat.beq k 272 || Nat.beq k 277 || Nat.beq k 279 || Nat.beq k 299 || Nat.beq k 316 || Nat.beq k 321 || Nat.beq k 323 || Nat.beq k 328 || Nat.beq k 330 || Nat.beq k 345 || Nat.beq k 357 || Nat.beq k 367 || Nat.beq k 374 || Nat.beq k 384 || Nat.beq k 391 || Nat.beq k 401 || Nat.beq k 408 || Nat.beq k 428 || Nat.beq k 445 || Nat.beq k 460 || Nat.beq k 472 || Nat.beq k 487 || Nat.beq k 499 || Nat.beq k 524 || Nat.beq k 546 || Nat.beq k 561 || Nat.beq k 573 || Nat.beq k 593 || Nat.beq k 610 || Nat.beq k 620 || Nat.beq k 627 || Nat.beq k 642 || Nat.beq k 654 || Nat.beq k 664 || Nat.beq k 671 || Nat.beq k 696 || Nat.beq k 718 || Nat.beq k 728 || Nat.beq k 735 || Nat.beq k 745 || Nat.beq k 752 || Nat.beq k 762 || Nat.beq k 769) 3 _ _ _ _ _ _ _ _ _ _ _ _ h
set_option maxRecDepth 8000 in
theorem lw_19 {d : Nat} {I : XI} {L : XL} {D : GD} {post : XQ}  {c s : Nat} {i : Int} (hd : 16 ≤ d) (h : (((0 ≤ (i + (1 : Int)) ∧ (i + (1 : Int)) < (D.2.2.2.2 : Int))) ∧ ((CO (I 10) (I 11) (I 12) (I 13) (I 14) (I 15) (I 16) (I 17) (I 18) (I 111) ∧ (-2147483648 ≤ (D.2.2.2.1 (i + (1 : Int))) ∧ (D.2.2.2.1 (i + (1 : Int))) ≤ 2147483647)) ∧ ((SO (I 111) ∧ (-2147483648 ≤ (D.2.2.2.1 (i + (1 : Int))) ∧ (D.2.2.2.1 (i + (1 : Int))) ≤ 2147483647)) ∧ (∀ (e3066 : Int) (e3067 : Int → Int) (e3068 : Int → Int), (((-2147483648 ≤ (if (I 10 (0 : Int) = 1 ∧ (-1 ≤ (D.2.2.2.1 (i + (1 : Int))) ∧ (D.2.2.2.1 (i + (1 : Int))) ≤ 9) ∧ pbits (pslices (cvw (I 10) (I 11) (I 12) (I 13) (I 14) (I 16) (I 17) (I 18) (I 111)) (-1)) ≤ 6) then (if (D.2.2.2.1 (i + (1 : Int))) = -1 then (cfr (cvw (I 10) (I 11) (I 12) (I 13) (I 14) (I 16) (I 17) (I 18) (I 111)) (I 10 (3 : Int)).toNat ((I 93), (0 : Int), (I 94))).2.1 else if 0 < (cfr (cvw (I 10) (I 11) (I 12) (I 13) (I 14) (I 16) (I 17) (I 18) (I 111)) (I 10 (3 : Int)).toNat ((I 93), (0 : Int), (I 94))).2.1 ∧ ((0 ≤ (D.2.2.2.1 (i + (1 : Int))) ∧ (D.2.2.2.1 (i + (1 : Int))) < I 10 (3 : Int)) ∧ I 17 (D.2.2.2.1 (i + (1 : Int))) = -1) then (cfr (cvw (I 10) (I 11) (I 12) (I 13) (I 14) (I 16) (I 17) (I 18) (I 111)) (I 10 (3 : Int)).toNat ((I 93), (0 : Int), (I 94))).2.2 (D.2.2.2.1 (i + (1 : Int))) else -2) else -3) ∧ (if (I 10 (0 : Int) = 1 ∧ (-1 ≤ (D.2.2.2.1 (i + (1 : Int))) ∧ (D.2.2.2.1 (i + (1 : Int))) ≤ 9) ∧ pbits (pslices (cvw (I 10) (I 11) (I 12) (I 13) (I 14) (I 16) (I 17) (I 18) (I 111)) (-1)) ≤ 6) then (if (D.2.2.2.1 (i + (1 : Int))) = -1 then (cfr (cvw (I 10) (I 11) (I 12) (I 13) (I 14) (I 16) (I 17) (I 18) (I 111)) (I 10 (3 : Int)).toNat ((I 93), (0 : Int), (I 94))).2.1 else if 0 < (cfr (cvw (I 10) (I 11) (I 12) (I 13) (I 14) (I 16) (I 17) (I 18) (I 111)) (I 10 (3 : Int)).toNat ((I 93), (0 : Int), (I 94))).2.1 ∧ ((0 ≤ (D.2.2.2.1 (i + (1 : Int))) ∧ (D.2.2.2.1 (i + (1 : Int))) < I 10 (3 : Int)) ∧ I 17 (D.2.2.2.1 (i + (1 : Int))) = -1) then (cfr (cvw (I 10) (I 11) (I 12) (I 13) (I 14) (I 16) (I 17) (I 18) (I 111)) (I 10 (3 : Int)).toNat ((I 93), (0 : Int), (I 94))).2.2 (D.2.2.2.1 (i + (1 : Int))) else -2) else -3) ≤ 2147483647) ∧ (-2147483648 ≤ (if (I 111 (0 : Int) = 1 ∧ (-1 ≤ (D.2.2.2.1 (i + (1 : Int))) ∧ (D.2.2.2.1 (i + (1 : Int))) ≤ 9) ∧ pbits (pslices (I 111) (-1)) ≤ 6) then qfair (I 111) (D.2.2.2.1 (i + (1 : Int))) else -3) ∧ (if (I 111 (0 : Int) = 1 ∧ (-1 ≤ (D.2.2.2.1 (i + (1 : Int))) ∧ (D.2.2.2.1 (i + (1 : Int))) ≤ 9) ∧ pbits (pslices (I 111) (-1)) ≤ 6) then qfair (I 111) (D.2.2.2.1 (i + (1 : Int))) else -3) ≤ 2147483647)) ∧ (((if (I 10 (0 : Int) = 1 ∧ (-1 ≤ (D.2.2.2.1 (i + (1 : Int))) ∧ (D.2.2.2.1 (i + (1 : Int))) ≤ 9) ∧ pbits (pslices (cvw (I 10) (I 11) (I 12) (I 13) (I 14) (I 16) (I 17) (I 18) (I 111)) (-1)) ≤ 6) then (if (D.2.2.2.1 (i + (1 : Int))) = -1 then (cfr (cvw (I 10) (I 11) (I 12) (I 13) (I 14) (I 16) (I 17) (I 18) (I 111)) (I 10 (3 : Int)).toNat ((I 93), (0 : Int), (I 94))).2.1 else if 0 < (cfr (cvw (I 10) (I 11) (I 12) (I 13) (I 14) (I 16) (I 17) (I 18) (I 111)) (I 10 (3 : Int)).toNat ((I 93), (0 : Int), (I 94))).2.1 ∧ ((0 ≤ (D.2.2.2.1 (i + (1 : Int))) ∧ (D.2.2.2.1 (i + (1 : Int))) < I 10 (3 : Int)) ∧ I 17 (D.2.2.2.1 (i + (1 : Int))) = -1) then (cfr (cvw (I 10) (I 11) (I 12) (I 13) (I 14) (I 16) (I 17) (I 18) (I 111)) (I 10 (3 : Int)).toNat ((I 93), (0 : Int), (I 94))).2.2 (D.2.2.2.1 (i + (1 : Int))) else -2) else -3) = (if (I 111 (0 : Int) = 1 ∧ (-1 ≤ (D.2.2.2.1 (i + (1 : Int))) ∧ (D.2.2.2.1 (i + (1 : Int))) ≤ 9) ∧ pbits (pslices (I 111) (-1)) ≤ 6) then qfair (I 111) (D.2.2.2.1 (i + (1 : Int))) else -3) → xR d 264 es_264 10 [xt 2, xr (some 0), xr (some 101), xi (i + (6 : Int))] [] (xsc (xsc (xsc (xsc (xsc (xsc (xsc (xsc I 24 (if (I 10 (0 : Int) = 1 ∧ (-1 ≤ (D.2.2.2.1 (i + (1 : Int))) ∧ (D.2.2.2.1 (i + (1 : Int))) ≤ 9) ∧ pbits (pslices (cvw (I 10) (I 11) (I 12) (I 13) (I 14) (I 16) (I 17) (I 18) (I 111)) (-1)) ≤ 6) then (wgk (I 24) (I 15) (I 17) (I 10) (I 10 (3 : Int)).toNat) else (I 24))) 92 (xup (I 92) (7 : Int) (if (I 10 (0 : Int) = 1 ∧ (-1 ≤ (D.2.2.2.1 (i + (1 : Int))) ∧ (D.2.2.2.1 (i + (1 : Int))) ≤ 9) ∧ pbits (pslices (cvw (I 10) (I 11) (I 12) (I 13) (I 14) (I 16) (I 17) (I 18) (I 111)) (-1)) ≤ 6) then (cfr (cvw (I 10) (I 11) (I 12) (I 13) (I 14) (I 16) (I 17) (I 18) (I 111)) (I 10 (3 : Int)).toNat ((I 93), (0 : Int), (I 94))).2.1 else I 92 (7 : Int)))) 93 (if (I 10 (0 : Int) = 1 ∧ (-1 ≤ (D.2.2.2.1 (i + (1 : Int))) ∧ (D.2.2.2.1 (i + (1 : Int))) ≤ 9) ∧ pbits (pslices (cvw (I 10) (I 11) (I 12) (I 13) (I 14) (I 16) (I 17) (I 18) (I 111)) (-1)) ≤ 6) then (cfr (cvw (I 10) (I 11) (I 12) (I 13) (I 14) (I 16) (I 17) (I 18) (I 111)) (I 10 (3 : Int)).toNat ((I 93), (0 : Int), (I 94))).1 else (I 93))) 94 (if (I 10 (0 : Int) = 1 ∧ (-1 ≤ (D.2.2.2.1 (i + (1 : Int))) ∧ (D.2.2.2.1 (i + (1 : Int))) ≤ 9) ∧ pbits (pslices (cvw (I 10) (I 11) (I 12) (I 13) (I 14) (I 16) (I 17) (I 18) (I 111)) (-1)) ≤ 6) then (cfr (cvw (I 10) (I 11) (I 12) (I 13) (I 14) (I 16) (I 17) (I 18) (I 111)) (I 10 (3 : Int)).toNat ((I 93), (0 : Int), (I 94))).2.2 else (I 94))) 101 (xup (I 101) (31 : Int) (if (I 111 (0 : Int) = 1 ∧ (-1 ≤ (D.2.2.2.1 (i + (1 : Int))) ∧ (D.2.2.2.1 (i + (1 : Int))) ≤ 9) ∧ pbits (pslices (I 111) (-1)) ≤ 6) then e3066 else I 101 (31 : Int)))) 111 (if (I 111 (0 : Int) = 1 ∧ (-1 ≤ (D.2.2.2.1 (i + (1 : Int))) ∧ (D.2.2.2.1 (i + (1 : Int))) ≤ 9) ∧ pbits (pslices (I 111) (-1)) ≤ 6) then (I 111) else (I 111))) 113 (if (I 111 (0 : Int) = 1 ∧ (-1 ≤ (D.2.2.2.1 (i + (1 : Int))) ∧ (D.2.2.2.1 (i + (1 : Int))) ≤ 9) ∧ pbits (pslices (I 111) (-1)) ≤ 6) then e3067 else (I 113))) 116 (if (I 111 (0 : Int) = 1 ∧ (-1 ≤ (D.2.2.2.1 (i + (1 : Int))) ∧ (D.2.2.2.1 (i + (1 : Int))) ≤ 9) ∧ pbits (pslices (I 111) (-1)) ≤ 6) then e3068 else (I 116))) L (gG D) c s post) ∧ (¬ (if (I 10 (0 : Int) = 1 ∧ (-1 ≤ (D.2.2.2.1 (i + (1 : Int))) ∧ (D.2.2.2.1 (i + (1 : Int))) ≤ 9) ∧ pbits (pslices (cvw (I 10) (I 11) (I 12) (I 13) (I 14) (I 16) (I 17) (I 18) (I 111)) (-1)) ≤ 6) then (if (D.2.2.2.1 (i + (1 : Int))) = -1 then (cfr (cvw (I 10) (I 11) (I 12) (I 13) (I 14) (I 16) (I 17) (I 18) (I 111)) (I 10 (3 : Int)).toNat ((I 93), (0 : Int), (I 94))).2.1 else if 0 < (cfr (cvw (I 10) (I 11) (I 12) (I 13) (I 14) (I 16) (I 17) (I 18) (I 111)) (I 10 (3 : Int)).toNat ((I 93), (0 : Int), (I 94))).2.1 ∧ ((0 ≤ (D.2.2.2.1 (i + (1 : Int))) ∧ (D.2.2.2.1 (i + (1 : Int))) < I 10 (3 : Int)) ∧ I 17 (D.2.2.2.1 (i + (1 : Int))) = -1) then (cfr (cvw (I 10) (I 11) (I 12) (I 13) (I 14) (I 16) (I 17) (I 18) (I 111)) (I 10 (3 : Int)).toNat ((I 93), (0 : Int), (I 94))).2.2 (D.2.2.2.1 (i + (1 : Int))) else -2) else -3) = (if (I 111 (0 : Int) = 1 ∧ (-1 ≤ (D.2.2.2.1 (i + (1 : Int))) ∧ (D.2.2.2.1 (i + (1 : Int))) ≤ 9) ∧ pbits (pslices (I 111) (-1)) ≤ 6) then qfair (I 111) (D.2.2.2.1 (i + (1 : Int))) else -3) → post (some (xi (0 : Int))) (xsc (xsc (xsc (xsc (xsc (xsc (xsc (xsc I 24 (if (I 10 (0 : Int) = 1 ∧ (-1 ≤ (D.2.2.2.1 (i + (1 : Int))) ∧ (D.2.2.2.1 (i + (1 : Int))) ≤ 9) ∧ pbits (pslices (cvw (I 10) (I 11) (I 12) (I 13) (I 14) (I 16) (I 17) (I 18) (I 111)) (-1)) ≤ 6) then (wgk (I 24) (I 15) (I 17) (I 10) (I 10 (3 : Int)).toNat) else (I 24))) 92 (xup (I 92) (7 : Int) (if (I 10 (0 : Int) = 1 ∧ (-1 ≤ (D.2.2.2.1 (i + (1 : Int))) ∧ (D.2.2.2.1 (i + (1 : Int))) ≤ 9) ∧ pbits (pslices (cvw (I 10) (I 11) (I 12) (I 13) (I 14) (I 16) (I 17) (I 18) (I 111)) (-1)) ≤ 6) then (cfr (cvw (I 10) (I 11) (I 12) (I 13) (I 14) (I 16) (I 17) (I 18) (I 111)) (I 10 (3 : Int)).toNat ((I 93), (0 : Int), (I 94))).2.1 else I 92 (7 : Int)))) 93 (if (I 10 (0 : Int) = 1 ∧ (-1 ≤ (D.2.2.2.1 (i + (1 : Int))) ∧ (D.2.2.2.1 (i + (1 : Int))) ≤ 9) ∧ pbits (pslices (cvw (I 10) (I 11) (I 12) (I 13) (I 14) (I 16) (I 17) (I 18) (I 111)) (-1)) ≤ 6) then (cfr (cvw (I 10) (I 11) (I 12) (I 13) (I 14) (I 16) (I 17) (I 18) (I 111)) (I 10 (3 : Int)).toNat ((I 93), (0 : Int), (I 94))).1 else (I 93))) 94 (if (I 10 (0 : Int) = 1 ∧ (-1 ≤ (D.2.2.2.1 (i + (1 : Int))) ∧ (D.2.2.2.1 (i + (1 : Int))) ≤ 9) ∧ pbits (pslices (cvw (I 10) (I 11) (I 12) (I 13) (I 14) (I 16) (I 17) (I 18) (I 111)) (-1)) ≤ 6) then (cfr (cvw (I 10) (I 11) (I 12) (I 13) (I 14) (I 16) (I 17) (I 18) (I 111)) (I 10 (3 : Int)).toNat ((I 93), (0 : Int), (I 94))).2.2 else (I 94))) 101 (xup (I 101) (31 : Int) (if (I 111 (0 : Int) = 1 ∧ (-1 ≤ (D.2.2.2.1 (i + (1 : Int))) ∧ (D.2.2.2.1 (i + (1 : Int))) ≤ 9) ∧ pbits (pslices (I 111) (-1)) ≤ 6) then e3066 else I 101 (31 : Int)))) 111 (if (I 111 (0 : Int) = 1 ∧ (-1 ≤ (D.2.2.2.1 (i + (1 : Int))) ∧ (D.2.2.2.1 (i + (1 : Int))) ≤ 9) ∧ pbits (pslices (I 111) (-1)) ≤ 6) then (I 111) else (I 111))) 113 (if (I 111 (0 : Int) = 1 ∧ (-1 ≤ (D.2.2.2.1 (i + (1 : Int))) ∧ (D.2.2.2.1 (i + (1 : Int))) ≤ 9) ∧ pbits (pslices (I 111) (-1)) ≤ 6) then e3067 else (I 113))) 116 (if (I 111 (0 : Int) = 1 ∧ (-1 ≤ (D.2.2.2.1 (i + (1 : Int))) ∧ (D.2.2.2.1 (i + (1 : Int))) ≤ 9) ∧ pbits (pslices (I 111) (-1)) ≤ 6) then e3068 else (I 116))) L (gG D))))))))) : xR d 264 es_264 395 [xt 2, xr (some 0), xr (some 101), xi i] [] I L (gG D) c s post := sg_264_395  (⟨h.1, (xR_cF rfl rfl rfl (c_132 h.2.1) (by omega) (sg_264_402  ⟨h.1, (xR_cQ rfl rfl rfl (c_238 h.2.2.1) (by omega) (fun _ _ _ _ hx3071 => by obtain ⟨e3066, e3067, e3068, rfl, rfl, rfl, rfl⟩ := hx3071; exact (sg_264_409  ⟨⟨(h.2.2.2 e3066 e3067 e3068).1.1, (h.2.2.2 e3066 e3067 e3068).1.2⟩, ⟨fun q3069 => ((h.2.2.2 e3066 e3067 e3068).2.1 q3069), fun q3070 => ⟨(by decide), ((h.2.2.2 e3066 e3067 e3068).2.2 q3070)⟩⟩⟩)))⟩))⟩)
theorem ls_19 {I : XI} {L : XL} {D : GD} {d c s : Nat} {post : XQ} {i : Int} (hd : 16 ≤ d) (hi : 0 ≤ i ∧ i + 6 ≤ (D.2.2.2.2 : Int)) (hsc : ∀ j, xrg (D.2.2.2.1 j)) (hr : REL I D) (hc : ∀ I2 L2, REL I2 D → xR d 264 es_264 10 [xt 2, xr (some 0), xr (some 101), xi (i + 6)] [] I2 L2 (gG D) c s post) : xR d 264 es_264 395 [xt 2, xr (some 0), xr (some 101), xi i] [] I L (gG D) c s post := by
  have hrr := hr.rr
  obtain ⟨h1, h2, h3, h4, h5, h6, ⟨h70, h71, h72, h73⟩, h8⟩ := hr
  have hC := h2.2.1
  have hn := hC.n
  have hg := hC.g
  have htn := hC.turn
  have s1 := hsc (i + 1)
  have s2 := hsc (i + 2)
  have s3 := hsc (i + 3)
  have s4 := hsc (i + 4)
  have hrow := h2.1
  have e0 : I 111 0 = I 10 0 := congrFun hrow 0
  have e1 : I 111 1 = I 16 1 := congrFun hrow 1
  have e2 : I 111 2 = I 10 2 := congrFun hrow 2
  have e3 : I 111 3 = I 10 3 := congrFun hrow 3
  have e4 : I 111 4 = I 10 4 := congrFun hrow 4
  have e10 : I 111 10 = I 16 2 := congrFun hrow 10
  have hS : SO (I 111) := by rw [hrow]; exact hC.1
  have ef : I 101 21 = I 6 2 := h3.2.2.2.1.symm
  have ers : I 101 2 = (D.1 : Int) := h3.2.1
  have erc : I 0 4 = (D.1 : Int) := h3.1
  have hD := h3.2.2.1
  have hfr := h3.2.2.2.2.1
  have ht9 := h2.2.2.1
  have hf0 := hC.f
  have hRf := h3.2.2.2.2.2.1 (I 6 2) hfr.1 hfr.2
  have hRO : RO (I 103) (I 105) (I 106) (I 101 21) := by rw [ef]; exact h3.2.2.2.2.2.2.1 (I 6 2) hfr.1 hfr.2
  have hRO2 : RO (I 103) (I 105) (I 106) (I 6 2) := h3.2.2.2.2.2.2.1 (I 6 2) hfr.1 hfr.2
  have ekk : I 101 23 = 0 := h5.2.2
  have ex : I 101 22 = I 6 3 := h4.1.symm
  have hx := h4.2
  have etp : I 101 1 = I 1 6 := h1.1.symm
  have htp := h1.2.1
  have eun : I 101 25 = I 88 0 := h6.1.symm
  have hun := h6.2.1
  have hnx := h6.2.2.1
  refine lw_19 (by omega) ?_
  simp only [← hrow, e0, e3, e4, e10, ef, ekk, ite_self]
  have hqg : (if (I 10 0 = 1 ∧ (-1 ≤ (D.2.2.2.1 (i + 1)) ∧ (D.2.2.2.1 (i + 1)) ≤ 9) ∧ pbits (pslices (I 111) (-1)) ≤ 6) then (if (D.2.2.2.1 (i + 1)) = -1 then (cfr (I 111) (I 10 3).toNat (I 93, (0 : Int), I 94)).2.1 else if 0 < (cfr (I 111) (I 10 3).toNat (I 93, (0 : Int), I 94)).2.1 ∧ ((0 ≤ (D.2.2.2.1 (i + 1)) ∧ (D.2.2.2.1 (i + 1)) < I 10 3) ∧ I 17 (D.2.2.2.1 (i + 1)) = -1) then (cfr (I 111) (I 10 3).toNat (I 93, (0 : Int), I 94)).2.2 (D.2.2.2.1 (i + 1)) else -2) else -3) = (if (I 10 0 = 1 ∧ (-1 ≤ (D.2.2.2.1 (i + 1)) ∧ (D.2.2.2.1 (i + 1)) ≤ 9) ∧ pbits (pslices (I 111) (-1)) ≤ 6) then qfair (I 111) (D.2.2.2.1 (i + 1)) else -3) := by
    by_cases q : (I 10 0 = 1 ∧ (-1 ≤ (D.2.2.2.1 (i + 1)) ∧ (D.2.2.2.1 (i + 1)) ≤ 9) ∧ pbits (pslices (I 111) (-1)) ≤ 6)
    · rw [if_pos q, if_pos q, qfair_c hS (I 93) (I 94) (D.2.2.2.1 (i + 1)), e3]
      by_cases q1 : (D.2.2.2.1 (i + 1)) = -1
      · rw [if_pos q1, if_pos q1]
      · have eo : I 111 (11 + (D.2.2.2.1 (i + 1))) = I 17 (D.2.2.2.1 (i + 1)) := by
          have := congrFun hrow (11 + (D.2.2.2.1 (i + 1)))
          rw [cvw_o (by omega)] at this
          exact this
        rw [eo]
    · rw [if_neg q, if_neg q]
  simp only [hqg]
  have hq : (I 10 0 = 1 ∧ (-1 ≤ (D.2.2.2.1 (i + 1)) ∧ (D.2.2.2.1 (i + 1)) ≤ 9) ∧ pbits (pslices (I 111) (-1)) ≤ 6) → -2 ≤ qfair (I 111) (D.2.2.2.1 (i + 1)) ∧ qfair (I 111) (D.2.2.2.1 (i + 1)) ≤ 15625 := fun q => qfair_rg hS q.2.2 (D.2.2.2.1 (i + 1))
  repeat' first | (with_reducible intro _) | (with_reducible refine And.intro ?_ ?_)
  all_goals first | omega | assumption | exact hRf | exact hC | (split <;> first | omega | (have q := hq (by assumption); omega)) | (exact absurd rfl (by assumption)) | (exact absurd trivial (by assumption)) | (exact False.elim (by assumption)) | exact hc _ _ ⟨h1, h2, h3, h4, h5, h6, ⟨h70, h71, h72, h73⟩, h8⟩
