theorem qslice_rg {a : Int → Int} (h : SO a) (s w : Int) : xrg (qslice a s w) := by
  have hn := h.n
  have hg := h.g
  unfold qslice
  split
  · exact ⟨by decide, by decide⟩
  · rename_i q
    have h1 := h.k (s := s) (by omega) (by omega)
    have h2 := h.z (s := s) (by omega) (by omega)
    have h3 := h.w (s := s) (by omega) (by omega)
    (repeat' split) <;> (constructor <;> omega)
theorem qguest_rg {a : Int → Int} (h : SO a) (g w : Int) : xrg (qguest a g w) := by
  have hn := h.g
  unfold qguest
  split
  · exact ⟨by decide, by decide⟩
  · rename_i q
    have h1 := h.r (g := g) (by omega) (by omega)
    have h2 := phas_rg h (g := g) (by omega) (by omega)
    have h3 := pslices_rg h g
    split
    · have h4 := h.l (j := 4 * g + w - 3) (by omega) (by omega)
      rw [show 51 + (4 * g + w - 3) = 51 + 4 * g + w - 3 by omega] at h4
      constructor <;> omega
    · (repeat' split) <;> (constructor <;> omega)
theorem pleft_rg {f : Int} {R : (Int → Int64) → Int64} {kk : Int} : ∀ (n : Nat) (a : Int → Int), SO a → a 10 + (n : Int) ≤ 2000 → -2 ≤ pleft f R kk n a ∧ pleft f R kk n a ≤ 2000 := by
  intro n
  induction n with
  | zero => intro a _ _; exact ⟨by show (-2 : Int) ≤ -2; decide, by show (-2 : Int) ≤ 2000; decide⟩
  | succ n ih =>
    intro a h hn
    have ht := h.turn
    unfold pleft
    split
    · omega
    · exact ih _ (SO_pass h (by omega)) (by rw [ppass_turn]; omega)
set_option maxRecDepth 8000 in
theorem sg_264_79 {d : Nat} {I : XI} {L : XL} {D : GD} {post : XQ} {c s : Nat} {u3 : Int} (h : ((0 ≤ (u3 + (1 : Int)) ∧ (u3 + (1 : Int)) < (D.2.2.2.2 : Int)) ∧ xR d 264 es_264 85 [xt 2, xr (some 0), xr (some 101), xi u3] [xi (D.2.2.2.1 (u3 + (1 : Int))), xr (some 0)] I L (gG D) c s post)) : xR d 264 es_264 79 [xt 2, xr (some 0), xr (some 101), xi u3] [] I L (gG D) c s post := xW_R (fun k => Nat.beq k 2 || Nat.beq k 6 || Nat.beq k 10 || Nat.beq k 48 || Nat.beq k 75 || Nat.beq k 85 || Nat.beq k 92 || Nat.beq k 97 || Nat.beq k 99 || Nat.beq k 104 || Nat.beq k 106 || Nat.beq k 116 || Nat.beq k 123 || Nat.beq k 138 || Nat.beq k 150 || Nat.beq k 165 || Nat.beq k 177 || Nat.beq k 182 || Nat.beq k 184 || Nat.beq k 199 || Nat.beq k 211 || Nat.beq k 221 || Nat.beq k 228 || Nat.beq k 243 || Nat.beq k 255 || Nat.beq k 265 || Nat.beq k 272 || Nat.beq k 277 || Nat.beq k 279 || Nat.beq k 299 || Nat.beq k 316 || Nat.beq k 321 || Nat.beq k 323 || Nat.beq k 328 || Nat.beq k 330 || Nat.beq k 345 || Nat.beq k 357 || Nat.beq k 367 || Nat.beq k 374 || Nat.beq k 384 || Nat.beq k 391 || Nat.beq k 401 || Nat.beq k 408 || Nat.beq k 428 || Nat.beq k 445 || Nat.beq k 460 || Nat.beq k 472 || Nat.beq k 487 || Nat.beq k 499 || Nat.beq k 524 || Nat.beq k 546 || Nat.beq k 561 || Nat.beq k 573 || Nat.beq k 593 || Nat.beq k 610 || Nat.beq k 620 || Nat.beq k 627 || Nat.beq k 642 || Nat.beq k 654 || Nat.beq k 664 || Nat.beq k 671 || Nat.beq k 696 || Nat.beq k 718 || Nat.beq k 728 || Nat.beq k 735 || Nat.beq k 745 || Nat.beq k 752 || Nat.beq k 762 || Nat.beq k 769) 6 _ _ _ _ _ _ _ _ _ _ _ _ h
set_option maxRecDepth 8000 in
theorem sg_264_86 {d : Nat} {I : XI} {L : XL} {D : GD} {post : XQ} {c s : Nat} {u3 : Int} {w0 : Int} (h : ((0 ≤ (u3 + (1 : Int)) ∧ (u3 + (1 : Int)) < (D.2.2.2.2 : Int)) ∧ xR d 264 es_264 92 [xt 2, xr (some 0), xr (some 101), xi u3] [xi (D.2.2.2.1 (u3 + (1 : Int))), xr (some 101), xi w0] I L (gG D) c s post)) : xR d 264 es_264 86 [xt 2, xr (some 0), xr (some 101), xi u3] [xi w0] I L (gG D) c s post := xW_R (fun k => Nat.beq k 2 || Nat.beq k 6 || Nat.beq k 10 || Nat.beq k 48 || Nat.beq k 75 || Nat.beq k 85 || Nat.beq k 92 || Nat.beq k 97 || Nat.beq k 99 || Nat.beq k 104 || Nat.beq k 106 || Nat.beq k 116 || Nat.beq k 123 || Nat.beq k 138 || Nat.beq k 150 || Nat.beq k 165 || Nat.beq k 177 || Nat.beq k 182 || Nat.beq k 184 || Nat.beq k 199 || Nat.beq k 211 || Nat.beq k 221 || Nat.beq k 228 || Nat.beq k 243 || Nat.beq k 255 || Nat.beq k 265 || Nat.beq k 272 || Nat.beq k 277 || Nat.beq k 279 || Nat.beq k 299 || Nat.beq k 316 || Nat.beq k 321 || Nat.beq k 323 || Nat.beq k 328 || Nat.beq k 330 || Nat.beq k 345 || Nat.beq k 357 || Nat.beq k 367 || Nat.beq k 374 || Nat.beq k 384 || Nat.beq k 391 || Nat.beq k 401 || Nat.beq k 408 || Nat.beq k 428 || Nat.beq k 445 || Nat.beq k 460 || Nat.beq k 472 || Nat.beq k 487 || Nat.beq k 499 || Nat.beq k 524 || Nat.beq k 546 || Nat.beq k 561 || Nat.beq k 573 || Nat.beq k 593 || Nat.beq k 610 || Nat.beq k 620 || Nat.beq k 627 || Nat.beq k 642 || Nat.beq k 654 || Nat.beq k 664 || Nat.beq k 671 || Nat.beq k 696 || Nat.beq k 718 || Nat.beq k 728 || Nat.beq k 735 || Nat.beq k 745 || Nat.beq k 752 || Nat.beq k 762 || Nat.beq k 769) 6 _ _ _ _ _ _ _ _ _ _ _ _ h
set_option maxRecDepth 8000 in
theorem sg_264_93 {d : Nat} {I : XI} {L : XL} {D : GD} {post : XQ} {c s : Nat} {u3 : Int} {w0 : Int} {w1 : Int} (h : (((-2147483648 ≤ w0 ∧ w0 ≤ 2147483647) ∧ (-2147483648 ≤ w1 ∧ w1 ≤ 2147483647)) ∧ ((w0 = w1 → xR d 264 es_264 10 [xt 2, xr (some 0), xr (some 101), xi (u3 + (6 : Int))] [] I L (gG D) c s post) ∧ (¬ w0 = w1 → (((0 : Int) = 0 ∨ (0 : Int) = 1) ∧ post (some (xi (0 : Int))) I L (gG D)))))) : xR d 264 es_264 93 [xt 2, xr (some 0), xr (some 101), xi u3] [xi w1, xi w0] I L (gG D) c s post := xW_R (fun k => Nat.beq k 2 || Nat.beq k 6 || Nat.beq k 10 || Nat.beq k 48 || Nat.beq k 75 || Nat.beq k 85 || Nat.beq k 92 || Nat.beq k 97 || Nat.beq k 99 || Nat.beq k 104 || Nat.beq k 106 || Nat.beq k 116 || Nat.beq k 123 || Nat.beq k 138 || Nat.beq k 150 || Nat.beq k 165 || Nat.beq k 177 || Nat.beq k 182 || Nat.beq k 184 || Nat.beq k 199 || Nat.beq k 211 || Nat.beq k 221 || Nat.beq k 228 || Nat.beq k 243 || Nat.beq k 255 || Nat.beq k 265 || Nat.beq k 272 || Nat.beq k 277 || Nat.beq k 279 || Nat.beq k 299 || Nat.beq k 316 || Nat.beq k 321 || Nat.beq k 323 || Nat.beq k 328 || Nat.beq k 330 || Nat.beq k 345 || Nat.beq k 357 || Nat.beq k 367 || Nat.beq k 374 || Nat.beq k 384 || Nat.beq k 391 || Nat.beq k 401 || Nat.beq k 408 || Nat.beq k 428 || Nat.beq k 445 || Nat.beq k 460 || Nat.beq k 472 || Nat.beq k 487 || Nat.beq k 499 || Nat.beq k 524 || Nat.beq k 546 || Nat.beq k 561 || Nat.beq k 573 || Nat.beq k 593 || Nat.beq k 610 || Nat.beq k 620 || Nat.beq k 627 || Nat.beq k 642 || Nat.beq k 654 || Nat.beq k 664 || Nat.beq k 671 || Nat.beq k 696 || Nat.beq k 718 || Nat.beq k 728 || Nat.beq k 735 || Nat.beq k 745 || Nat.beq k 752 || Nat.beq k 762 || Nat.beq k 769) 3 _ _ _ _ _ _ _ _ _ _ _ _ h
set_option maxRecDepth 8000 in
theorem lw_1 {d : Nat} {I : XI} {L : XL} {D : GD} {post : XQ}  {c s : Nat} {i : Int} (hd : 1 ≤ d) (h : (((0 ≤ (i + (1 : Int)) ∧ (i + (1 : Int)) < (D.2.2.2.2 : Int))) ∧ (((-2147483648 ≤ (D.2.2.2.1 (i + (1 : Int))) ∧ (D.2.2.2.1 (i + (1 : Int))) ≤ 2147483647) ∧ (-2147483648 ≤ (I 1 (6 : Int)) ∧ (I 1 (6 : Int)) ≤ 2147483647)) ∧ (((-2147483648 ≤ (D.2.2.2.1 (i + (1 : Int))) ∧ (D.2.2.2.1 (i + (1 : Int))) ≤ 2147483647) ∧ (-2147483648 ≤ (I 101 (1 : Int)) ∧ (I 101 (1 : Int)) ≤ 2147483647)) ∧ (((-2147483648 ≤ (if (0 ≤ (D.2.2.2.1 (i + (1 : Int))) ∧ (D.2.2.2.1 (i + (1 : Int))) ≤ I 1 (6 : Int)) then D.2.2.2.1 (i + (1 : Int)) else -1) ∧ (if (0 ≤ (D.2.2.2.1 (i + (1 : Int))) ∧ (D.2.2.2.1 (i + (1 : Int))) ≤ I 1 (6 : Int)) then D.2.2.2.1 (i + (1 : Int)) else -1) ≤ 2147483647) ∧ (-2147483648 ≤ (if (0 ≤ (D.2.2.2.1 (i + (1 : Int))) ∧ (D.2.2.2.1 (i + (1 : Int))) ≤ I 101 (1 : Int)) then D.2.2.2.1 (i + (1 : Int)) else -1) ∧ (if (0 ≤ (D.2.2.2.1 (i + (1 : Int))) ∧ (D.2.2.2.1 (i + (1 : Int))) ≤ I 101 (1 : Int)) then D.2.2.2.1 (i + (1 : Int)) else -1) ≤ 2147483647)) ∧ (((if (0 ≤ (D.2.2.2.1 (i + (1 : Int))) ∧ (D.2.2.2.1 (i + (1 : Int))) ≤ I 1 (6 : Int)) then D.2.2.2.1 (i + (1 : Int)) else -1) = (if (0 ≤ (D.2.2.2.1 (i + (1 : Int))) ∧ (D.2.2.2.1 (i + (1 : Int))) ≤ I 101 (1 : Int)) then D.2.2.2.1 (i + (1 : Int)) else -1) → xR d 264 es_264 10 [xt 2, xr (some 0), xr (some 101), xi (i + (6 : Int))] [] (xsc (xsc I 1 (xup (I 1) (6 : Int) (if (0 ≤ (D.2.2.2.1 (i + (1 : Int))) ∧ (D.2.2.2.1 (i + (1 : Int))) ≤ I 1 (6 : Int)) then D.2.2.2.1 (i + (1 : Int)) else I 1 (6 : Int)))) 101 (xup (I 101) (1 : Int) (if (0 ≤ (D.2.2.2.1 (i + (1 : Int))) ∧ (D.2.2.2.1 (i + (1 : Int))) ≤ I 101 (1 : Int)) then D.2.2.2.1 (i + (1 : Int)) else I 101 (1 : Int)))) L (gG D) c s post) ∧ (¬ (if (0 ≤ (D.2.2.2.1 (i + (1 : Int))) ∧ (D.2.2.2.1 (i + (1 : Int))) ≤ I 1 (6 : Int)) then D.2.2.2.1 (i + (1 : Int)) else -1) = (if (0 ≤ (D.2.2.2.1 (i + (1 : Int))) ∧ (D.2.2.2.1 (i + (1 : Int))) ≤ I 101 (1 : Int)) then D.2.2.2.1 (i + (1 : Int)) else -1) → post (some (xi (0 : Int))) (xsc (xsc I 1 (xup (I 1) (6 : Int) (if (0 ≤ (D.2.2.2.1 (i + (1 : Int))) ∧ (D.2.2.2.1 (i + (1 : Int))) ≤ I 1 (6 : Int)) then D.2.2.2.1 (i + (1 : Int)) else I 1 (6 : Int)))) 101 (xup (I 101) (1 : Int) (if (0 ≤ (D.2.2.2.1 (i + (1 : Int))) ∧ (D.2.2.2.1 (i + (1 : Int))) ≤ I 101 (1 : Int)) then D.2.2.2.1 (i + (1 : Int)) else I 101 (1 : Int)))) L (gG D)))))))) : xR d 264 es_264 79 [xt 2, xr (some 0), xr (some 101), xi i] [] I L (gG D) c s post := sg_264_79  (⟨h.1, (xR_cF rfl rfl rfl (c_114 h.2.1) (by omega) (sg_264_86  ⟨h.1, (xR_cF rfl rfl rfl (c_152 h.2.2.1) (by omega) (sg_264_93  ⟨⟨h.2.2.2.1.1, h.2.2.2.1.2⟩, ⟨fun q2580 => (h.2.2.2.2.1 q2580), fun q2581 => ⟨(by decide), (h.2.2.2.2.2 q2581)⟩⟩⟩))⟩))⟩)
theorem ls_1 {I : XI} {L : XL} {D : GD} {d c s : Nat} {post : XQ} {i : Int} (hd : 1 ≤ d) (hi : 0 ≤ i ∧ i + 6 ≤ (D.2.2.2.2 : Int)) (hsc : ∀ j, xrg (D.2.2.2.1 j)) (hr : REL I D) (hc : ∀ I2 L2, REL I2 D → xR d 264 es_264 10 [xt 2, xr (some 0), xr (some 101), xi (i + 6)] [] I2 L2 (gG D) c s post) : xR d 264 es_264 79 [xt 2, xr (some 0), xr (some 101), xi i] [] I L (gG D) c s post := by
  have hrr := hr.rr
  obtain ⟨h1, h2, h3, h4, h5, h6, ⟨h70, h71, h72, h73⟩, h8⟩ := hr
  have hC := h2.2.1
  have hn := hC.n
  have hg := hC.g
  have htn := hC.turn
  have s1 := hsc (i + 1)
  have s2 := hsc (i + 2)
  have s3 := hsc (i + 3)
  have s4 := hsc (i + 4)
  have hrow := h2.1
  have e0 : I 111 0 = I 10 0 := congrFun hrow 0
  have e1 : I 111 1 = I 16 1 := congrFun hrow 1
  have e2 : I 111 2 = I 10 2 := congrFun hrow 2
  have e3 : I 111 3 = I 10 3 := congrFun hrow 3
  have e4 : I 111 4 = I 10 4 := congrFun hrow 4
  have e10 : I 111 10 = I 16 2 := congrFun hrow 10
  have hS : SO (I 111) := by rw [hrow]; exact hC.1
  have ef : I 101 21 = I 6 2 := h3.2.2.2.1.symm
  have ers : I 101 2 = (D.1 : Int) := h3.2.1
  have erc : I 0 4 = (D.1 : Int) := h3.1
  have hD := h3.2.2.1
  have hfr := h3.2.2.2.2.1
  have ht9 := h2.2.2.1
  have hf0 := hC.f
  have hRf := h3.2.2.2.2.2.1 (I 6 2) hfr.1 hfr.2
  have hRO : RO (I 103) (I 105) (I 106) (I 101 21) := by rw [ef]; exact h3.2.2.2.2.2.2.1 (I 6 2) hfr.1 hfr.2
  have hRO2 : RO (I 103) (I 105) (I 106) (I 6 2) := h3.2.2.2.2.2.2.1 (I 6 2) hfr.1 hfr.2
  have ekk : I 101 23 = 0 := h5.2.2
  have ex : I 101 22 = I 6 3 := h4.1.symm
  have hx := h4.2
  have etp : I 101 1 = I 1 6 := h1.1.symm
  have htp := h1.2.1
  have eun : I 101 25 = I 88 0 := h6.1.symm
  have hun := h6.2.1
  have hnx := h6.2.2.1
  refine lw_1 (by omega) ?_
  rw [etp]
  repeat' first | (with_reducible intro _) | (with_reducible refine And.intro ?_ ?_)
  all_goals first | omega | (split <;> omega) | (exact absurd rfl (by assumption)) | skip
  refine hc _ _ ⟨?_, h2, h3, h4, h5, h6, ⟨h70, h71, h72, h73⟩, h8⟩
  show R1 (if _ then _ else _) (if _ then _ else _) _ _
  split
  · exact ⟨rfl, by omega, h1.2.2.1, fun j j0 j1 => h1.2.2.2 j j0 (by omega)⟩
  · exact ⟨rfl, htp, h1.2.2⟩
set_option maxRecDepth 8000 in
theorem sg_264_127 {d : Nat} {I : XI} {L : XL} {D : GD} {post : XQ} {c s : Nat} {u3 : Int} (h : ((0 ≤ (u3 + (1 : Int)) ∧ (u3 + (1 : Int)) < (D.2.2.2.2 : Int)) ∧ ((0 ≤ (u3 + (2 : Int)) ∧ (u3 + (2 : Int)) < (D.2.2.2.2 : Int)) ∧ xR d 264 es_264 138 [xt 2, xr (some 0), xr (some 101), xi u3] [xi (D.2.2.2.1 (u3 + (2 : Int))), xi (D.2.2.2.1 (u3 + (1 : Int))), xr (some 0)] I L (gG D) c s post))) : xR d 264 es_264 127 [xt 2, xr (some 0), xr (some 101), xi u3] [] I L (gG D) c s post := xW_R (fun k => Nat.beq k 2 || Nat.beq k 6 || Nat.beq k 10 || Nat.beq k 48 || Nat.beq k 75 || Nat.beq k 85 || Nat.beq k 92 || Nat.beq k 97 || Nat.beq k 99 || Nat.beq k 104 || Nat.beq k 106 || Nat.beq k 116 || Nat.beq k 123 || Nat.beq k 138 || Nat.beq k 150 || Nat.beq k 165 || Nat.beq k 177 || Nat.beq k 182 || Nat.beq k 184 || Nat.beq k 199 || Nat.beq k 211 || Nat.beq k 221 || Nat.beq k 228 || Nat.beq k 243 || Nat.beq k 255 || Nat.beq k 265 || Nat.beq k 272 || Nat.beq k 277 || Nat.beq k 279 || Nat.beq k 299 || Nat.beq k 316 || Nat.beq k 321 || Nat.beq k 323 || Nat.beq k 328 || Nat.beq k 330 || Nat.beq k 345 || Nat.beq k 357 || Nat.beq k 367 || Nat.beq k 374 || Nat.beq k 384 || Nat.beq k 391 || Nat.beq k 401 || Nat.beq k 408 || Nat.beq k 428 || Nat.beq k 445 || Nat.beq k 460 || Nat.beq k 472 || Nat.beq k 487 || Nat.beq k 499 || Nat.beq k 524 || Nat.beq k 546 || Nat.beq k 561 || Nat.beq k 573 || Nat.beq k 593 || Nat.beq k 610 || Nat.beq k 620 || Nat.beq k 627 || Nat.beq k 642 || Nat.beq k 654 || Nat.beq k 664 || Nat.beq k 671 || Nat.beq k 696 || Nat.beq k 718 || Nat.beq k 728 || Nat.beq k 735 || Nat.beq k 745 || Nat.beq k 752 || Nat.beq k 762 || Nat.beq k 769) 11 _ _ _ _ _ _ _ _ _ _ _ _ h
set_option maxRecDepth 8000 in
theorem sg_264_139 {d : Nat} {I : XI} {L : XL} {D : GD} {post : XQ} {c s : Nat} {u3 : Int} {w0 : Int} (h : ((0 ≤ (u3 + (1 : Int)) ∧ (u3 + (1 : Int)) < (D.2.2.2.2 : Int)) ∧ ((0 ≤ (u3 + (2 : Int)) ∧ (u3 + (2 : Int)) < (D.2.2.2.2 : Int)) ∧ xR d 264 es_264 150 [xt 2, xr (some 0), xr (some 101), xi u3] [xi (D.2.2.2.1 (u3 + (2 : Int))), xi (D.2.2.2.1 (u3 + (1 : Int))), xr (some 101), xi w0] I L (gG D) c s post))) : xR d 264 es_264 139 [xt 2, xr (some 0), xr (some 101), xi u3] [xi w0] I L (gG D) c s post := xW_R (fun k => Nat.beq k 2 || Nat.beq k 6 || Nat.beq k 10 || Nat.beq k 48 || Nat.beq k 75 || Nat.beq k 85 || Nat.beq k 92 || Nat.beq k 97 || Nat.beq k 99 || Nat.beq k 104 || Nat.beq k 106 || Nat.beq k 116 || Nat.beq k 123 || Nat.beq k 138 || Nat.beq k 150 || Nat.beq k 165 || Nat.beq k 177 || Nat.beq k 182 || Nat.beq k 184 || Nat.beq k 199 || Nat.beq k 211 || Nat.beq k 221 || Nat.beq k 228 || Nat.beq k 243 || Nat.beq k 255 || Nat.beq k 265 || Nat.beq k 272 || Nat.beq k 277 || Nat.beq k 279 || Nat.beq k 299 || Nat.beq k 316 || Nat.beq k 321 || Nat.beq k 323 || Nat.beq k 328 || Nat.beq k 330 || Nat.beq k 345 || Nat.beq k 357 || Nat.beq k 367 || Nat.beq k 374 || Nat.beq k 384 || Nat.beq k 391 || Nat.beq k 401 || Nat.beq k 408 || Nat.beq k 428 || Nat.beq k 445 || Nat.beq k 460 || Nat.beq k 472 || Nat.beq k 487 || Nat.beq k 499 || Nat.beq k 524 || Nat.beq k 546 || Nat.beq k 561 || Nat.beq k 573 || Nat.beq k 593 || Nat.beq k 610 || Nat.beq k 620 || Nat.beq k 627 || Nat.beq k 642 || Nat.beq k 654 || Nat.beq k 664 || Nat.beq k 671 || Nat.beq k 696 || Nat.beq k 718 || Nat.beq k 728 || Nat.beq k 735 || Nat.beq k 745 || Nat.beq k 752 || Nat.beq k 762 || Nat.beq k 769) 11 _ _ _ _ _ _ _ _ _ _ _ _ h
set_option maxRecDepth 8000 in
theorem sg_264_151 {d : Nat} {I : XI} {L : XL} {D : GD} {post : XQ} {c s : Nat} {u3 : Int} {w0 : Int} {w1 : Int} (h : (((-2147483648 ≤ w0 ∧ w0 ≤ 2147483647) ∧ (-2147483648 ≤ w1 ∧ w1 ≤ 2147483647)) ∧ ((w0 = w1 → xR d 264 es_264 10 [xt 2, xr (some 0), xr (some 101), xi (u3 + (6 : Int))] [] I L (gG D) c s post) ∧ (¬ w0 = w1 → (((0 : Int) = 0 ∨ (0 : Int) = 1) ∧ post (some (xi (0 : Int))) I L (gG D)))))) : xR d 264 es_264 151 [xt 2, xr (some 0), xr (some 101), xi u3] [xi w1, xi w0] I L (gG D) c s post := xW_R (fun k => Nat.beq k 2 || Nat.beq k 6 || Nat.beq k 10 || Nat.beq k 48 || Nat.beq k 75 || Nat.beq k 85 || Nat.beq k 92 || Nat.beq k 97 || Nat.beq k 99 || Nat.beq k 104 || Nat.beq k 106 || Nat.beq k 116 || Nat.beq k 123 || Nat.beq k 138 || Nat.beq k 150 || Nat.beq k 165 || Nat.beq k 177 || Nat.beq k 182 || Nat.beq k 184 || Nat.beq k 199 || Nat.beq k 211 || Nat.beq k 221 || Nat.beq k 228 || Nat.beq k 243 || Nat.beq k 255 || Nat.beq k 265 || Nat.beq k 272 || Nat.beq k 277 || Nat.beq k 279 || Nat.beq k 299 || Nat.beq k 316 || Nat.beq k 321 || Nat.beq k 323 || Nat.beq k 328 || Nat.beq k 330 || Nat.beq k 345 || Nat.beq k 357 || Nat.beq k 367 || Nat.beq k 374 || Nat.beq k 384 || Nat.beq k 391 || Nat.beq k 401 || Nat.beq k 408 || Nat.beq k 428 || Nat.beq k 445 || Nat.beq k 460 || Nat.beq k 472 || Nat.beq k 487 || Nat.beq k 499 || Nat.beq k 524 || Nat.beq k 546 || Nat.beq k 561 || Nat.beq k 573 || Nat.beq k 593 || Nat.beq k 610 || Nat.beq k 620 || Nat.beq k 627 || Nat.beq k 642 || Nat.beq k 654 || Nat.beq k 664 || Nat.beq k 671 || Nat.beq k 696 || Nat.beq k 718 || Nat.beq k 728 || Nat.beq k 735 || Nat.beq k 745 || Nat.beq k 752 || Nat.beq k 762 || Nat.beq k 769) 3 _ _ _ _ _ _ _ _ _ _ _ _ h
set_option maxRecDepth 8000 in
theorem lw_5 {d : Nat} {I : XI} {L : XL} {D : GD} {post : XQ}  {c s : Nat} {i : Int} (hd : 2 ≤ d) (h : (((0 ≤ (i + (1 : Int)) ∧ (i + (1 : Int)) < (D.2.2.2.2 : Int))) ∧ (((0 ≤ (i + (2 : Int)) ∧ (i + (2 : Int)) < (D.2.2.2.2 : Int))) ∧ ((CO (I 10) (I 11) (I 12) (I 13) (I 14) (I 15) (I 16) (I 17) (I 18) (I 111) ∧ (-2147483648 ≤ (D.2.2.2.1 (i + (1 : Int))) ∧ (D.2.2.2.1 (i + (1 : Int))) ≤ 2147483647) ∧ (-2147483648 ≤ (D.2.2.2.1 (i + (2 : Int))) ∧ (D.2.2.2.1 (i + (2 : Int))) ≤ 2147483647)) ∧ ((SO (I 111) ∧ (-2147483648 ≤ (D.2.2.2.1 (i + (1 : Int))) ∧ (D.2.2.2.1 (i + (1 : Int))) ≤ 2147483647) ∧ (-2147483648 ≤ (D.2.2.2.1 (i + (2 : Int))) ∧ (D.2.2.2.1 (i + (2 : Int))) ≤ 2147483647)) ∧ (((-2147483648 ≤ (qslice (cvw (I 10) (I 11) (I 12) (I 13) (I 14) (I 16) (I 17) (I 18) (I 111)) (D.2.2.2.1 (i + (1 : Int))) (D.2.2.2.1 (i + (2 : Int)))) ∧ (qslice (cvw (I 10) (I 11) (I 12) (I 13) (I 14) (I 16) (I 17) (I 18) (I 111)) (D.2.2.2.1 (i + (1 : Int))) (D.2.2.2.1 (i + (2 : Int)))) ≤ 2147483647) ∧ (-2147483648 ≤ (qslice (I 111) (D.2.2.2.1 (i + (1 : Int))) (D.2.2.2.1 (i + (2 : Int)))) ∧ (qslice (I 111) (D.2.2.2.1 (i + (1 : Int))) (D.2.2.2.1 (i + (2 : Int)))) ≤ 2147483647)) ∧ (((qslice (cvw (I 10) (I 11) (I 12) (I 13) (I 14) (I 16) (I 17) (I 18) (I 111)) (D.2.2.2.1 (i + (1 : Int))) (D.2.2.2.1 (i + (2 : Int)))) = (qslice (I 111) (D.2.2.2.1 (i + (1 : Int))) (D.2.2.2.1 (i + (2 : Int)))) → xR d 264 es_264 10 [xt 2, xr (some 0), xr (some 101), xi (i + (6 : Int))] [] I L (gG D) c s post) ∧ (¬ (qslice (cvw (I 10) (I 11) (I 12) (I 13) (I 14) (I 16) (I 17) (I 18) (I 111)) (D.2.2.2.1 (i + (1 : Int))) (D.2.2.2.1 (i + (2 : Int)))) = (qslice (I 111) (D.2.2.2.1 (i + (1 : Int))) (D.2.2.2.1 (i + (2 : Int)))) → post (some (xi (0 : Int))) I L (gG D))))))))) : xR d 264 es_264 127 [xt 2, xr (some 0), xr (some 101), xi i] [] I L (gG D) c s post := sg_264_127  (⟨h.1, ⟨h.2.1, (xR_cF rfl rfl rfl (c_118 h.2.2.1) (by omega) (sg_264_139  ⟨h.1, ⟨h.2.1, (xR_cF rfl rfl rfl (c_204 h.2.2.2.1) (by omega) (sg_264_151  ⟨⟨h.2.2.2.2.1.1, h.2.2.2.2.1.2⟩, ⟨fun q2582 => (h.2.2.2.2.2.1 q2582), fun q2583 => ⟨(by decide), (h.2.2.2.2.2.2 q2583)⟩⟩⟩))⟩⟩))⟩⟩)
theorem ls_5 {I : XI} {L : XL} {D : GD} {d c s : Nat} {post : XQ} {i : Int} (hd : 2 ≤ d) (hi : 0 ≤ i ∧ i + 6 ≤ (D.2.2.2.2 : Int)) (hsc : ∀ j, xrg (D.2.2.2.1 j)) (hr : REL I D) (hc : ∀ I2 L2, REL I2 D → xR d 264 es_264 10 [xt 2, xr (some 0), xr (some 101), xi (i + 6)] [] I2 L2 (gG D) c s post) : xR d 264 es_264 127 [xt 2, xr (some 0), xr (some 101), xi i] [] I L (gG D) c s post := by
  have hrr := hr.rr
  obtain ⟨h1, h2, h3, h4, h5, h6, ⟨h70, h71, h72, h73⟩, h8⟩ := hr
  have hC := h2.2.1
  have hn := hC.n
  have hg := hC.g
  have htn := hC.turn
  have s1 := hsc (i + 1)
  have s2 := hsc (i + 2)
  have s3 := hsc (i + 3)
  have s4 := hsc (i + 4)
  have hrow := h2.1
  have e0 : I 111 0 = I 10 0 := congrFun hrow 0
  have e1 : I 111 1 = I 16 1 := congrFun hrow 1
  have e2 : I 111 2 = I 10 2 := congrFun hrow 2
  have e3 : I 111 3 = I 10 3 := congrFun hrow 3
  have e4 : I 111 4 = I 10 4 := congrFun hrow 4
  have e10 : I 111 10 = I 16 2 := congrFun hrow 10
  have hS : SO (I 111) := by rw [hrow]; exact hC.1
  have ef : I 101 21 = I 6 2 := h3.2.2.2.1.symm
  have ers : I 101 2 = (D.1 : Int) := h3.2.1
  have erc : I 0 4 = (D.1 : Int) := h3.1
  have hD := h3.2.2.1
  have hfr := h3.2.2.2.2.1
  have ht9 := h2.2.2.1
  have hf0 := hC.f
  have hRf := h3.2.2.2.2.2.1 (I 6 2) hfr.1 hfr.2
  have hRO : RO (I 103) (I 105) (I 106) (I 101 21) := by rw [ef]; exact h3.2.2.2.2.2.2.1 (I 6 2) hfr.1 hfr.2
  have hRO2 : RO (I 103) (I 105) (I 106) (I 6 2) := h3.2.2.2.2.2.2.1 (I 6 2) hfr.1 hfr.2
  have ekk : I 101 23 = 0 := h5.2.2
  have ex : I 101 22 = I 6 3 := h4.1.symm
  have hx := h4.2
  have etp : I 101 1 = I 1 6 := h1.1.symm
  have htp := h1.2.1
  have eun : I 101 25 = I 88 0 := h6.1.symm
  have hun := h6.2.1
  have hnx := h6.2.2.1
  refine lw_5 (by omega) ?_
  rw [← hrow]
  have hq := qslice_rg hS (D.2.2.2.1 (i + 1)) (D.2.2.2.1 (i + 2))
  repeat' first | (with_reducible intro _) | (with_reducible refine And.intro ?_ ?_)
  all_goals first | omega | assumption | exact hq.1 | exact hq.2 | (exact absurd rfl (by assumption)) | exact hc _ _ ⟨h1, h2, h3, h4, h5, h6, ⟨h70, h71, h72, h73⟩, h8⟩
set_option maxRecDepth 8000 in
theorem sg_264_154 {d : Nat} {I : XI} {L : XL} {D : GD} {post : XQ} {c s : Nat} {u3 : Int} (h : ((0 ≤ (u3 + (1 : Int)) ∧ (u3 + (1 : Int)) < (D.2.2.2.2 : Int)) ∧ ((0 ≤ (u3 + (2 : Int)) ∧ (u3 + (2 : Int)) < (D.2.2.2.2 : Int)) ∧ xR d 264 es_264 165 [xt 2, xr (some 0), xr (some 101), xi u3] [xi (D.2.2.2.1 (u3 + (2 : Int))), xi (D.2.2.2.1 (u3 + (1 : Int))), xr (some 0)] I L (gG D) c s post))) : xR d 264 es_264 154 [xt 2, xr (some 0), xr (some 101), xi u3] [] I L (gG D) c s post := xW_R (fun k => Nat.beq k 2 || Nat.beq k 6 || Nat.beq k 10 || Nat.beq k 48 || Nat.beq k 75 || Nat.beq k 85 || Nat.beq k 92 || Nat.beq k 97 || Nat.beq k 99 || Nat.beq k 104 || Nat.beq k 106 || Nat.beq k 116 || Nat.beq k 123 || Nat.beq k 138 || Nat.beq k 150 || Nat.beq k 165 || Nat.beq k 177 || Nat.beq k 182 || Nat.beq k 184 || Nat.beq k 199 || Nat.beq k 211 || Nat.beq k 221 || Nat.beq k 228 || Nat.beq k 243 || Nat.beq k 255 || Nat.beq k 265 || Nat.beq k 272 || Nat.beq k 277 || Nat.beq k 279 || Nat.beq k 299 || Nat.beq k 316 || Nat.beq k 321 || Nat.beq k 323 || Nat.beq k 328 || Nat.beq k 330 || Nat.beq k 345 || Nat.beq k 357 || Nat.beq k 367 || Nat.beq k 374 || Nat.beq k 384 || Nat.beq k 391 || Nat.beq k 401 || Nat.beq k 408 || Nat.beq k 428 || Nat.beq k 445 || Nat.beq k 460 || Nat.beq k 472 || Nat.beq k 487 || Nat.beq k 499 || Nat.beq k 524 || Nat.beq k 546 || Nat.beq k 561 || Nat.beq k 573 || Nat.beq k 593 || Nat.beq k 610 || Nat.beq k 620 || Nat.beq k 627 || Nat.beq k 642 || Nat.beq k 654 || Nat.beq k 664 || Nat.beq k 671 || Nat.beq k 696 || Nat.beq k 718 || Nat.beq k 728 || Nat.beq k 735 || Nat.beq k 745 || Nat.beq k 752 || Nat.beq k 762 || Nat.beq k 769) 11 _ _ _ _ _ _ _ _ _ _ _ _ h
set_option maxRecDepth 8000 in
theorem sg_264_166 {d : Nat} {I : XI} {L : XL} {D : GD} {post : XQ} {c s : Nat} {u3 : Int} {w0 : Int} (h : ((0 ≤ (u3 + (1 : Int)) ∧ (u3 + (1 : Int)) < (D.2.2.2.2 : Int)) ∧ ((0 ≤ (u3 + (2 : Int)) ∧ (u3 + (2 : Int)) < (D.2.2.2.2 : Int)) ∧ xR d 264 es_264 177 [xt 2, xr (some 0), xr (some 101), xi u3] [xi (D.2.2.2.1 (u3 + (2 : Int))), xi (D.2.2.2.1 (u3 + (1 : Int))), xr (some 101), xi w0] I L (gG D) c s post))) : xR d 264 es_264 166 [xt 2, xr (some 0), xr (some 101), xi u3] [xi w0] I L (gG D) c s post := xW_R (fun k => Nat.beq k 2 || Nat.beq k 6 || Nat.beq k 10 || Nat.beq k 48 || Nat.beq k 75 || Nat.beq k 85 || Nat.beq k 92 || Nat.beq k 97 || Nat.beq k 99 || Nat.beq k 104 || Nat.beq k 106 || Nat.beq k 116 || Nat.beq k 123 || Nat.beq k 138 || Nat.beq k 150 || Nat.beq k 165 || Nat.beq k 177 || Nat.beq k 182 || Nat.beq k 184 || Nat.beq k 199 || Nat.beq k 211 || Nat.beq k 221 || Nat.beq k 228 || Nat.beq k 243 || Nat.beq k 255 || Nat.beq k 265 || Nat.beq k 272 || Nat.beq k 277 || Nat.beq k 279 || Nat.beq k 299 || Nat.beq k 316 || Nat.beq k 321 || Nat.beq k 323 || Nat.beq k 328 || Nat.beq k 330 || Nat.beq k 345 || Nat.beq k 357 || Nat.beq k 367 || Nat.beq k 374 || Nat.beq k 384 || Nat.beq k 391 || Nat.beq k 401 || Nat.beq k 408 || Nat.beq k 428 || Nat.beq k 445 || Nat.beq k 460 || Nat.beq k 472 || Nat.beq k 487 || Nat.beq k 499 || Nat.beq k 524 || Nat.beq k 546 || Nat.beq k 561 || Nat.beq k 573 || Nat.beq k 593 || Nat.beq k 610 || Nat.beq k 620 || Nat.beq k 627 || Nat.beq k 642 || Nat.beq k 654 || Nat.beq k 664 || Nat.beq k 671 || Nat.beq k 696 || Nat.beq k 718 || Nat.beq k 728 || Nat.beq k 735 || Nat.beq k 745 || Nat.beq k 752 || Nat.beq k 762 || Nat.beq k 769) 11 _ _ _ _ _ _ _ _ _ _ _ _ h
set_option maxRecDepth 8000 in
theorem sg_264_178 {d : Nat} {I : XI} {L : XL} {D : GD} {post : XQ} {c s : Nat} {u3 : Int} {w0 : Int} {w1 : Int} (h : (((-2147483648 ≤ w0 ∧ w0 ≤ 2147483647) ∧ (-2147483648 ≤ w1 ∧ w1 ≤ 2147483647)) ∧ ((w0 = w1 → xR d 264 es_264 10 [xt 2, xr (some 0), xr (some 101), xi (u3 + (6 : Int))] [] I L (gG D) c s post) ∧ (¬ w0 = w1 → (((0 : Int) = 0 ∨ (0 : Int) = 1) ∧ post (some (xi (0 : Int))) I L (gG D)))))) : xR d 264 es_264 178 [xt 2, xr (some 0), xr (some 101), xi u3] [xi w1, xi w0] I L (gG D) c s post := xW_R (fun k => Nat.beq k 2 || Nat.beq k 6 || Nat.beq k 10 || Nat.beq k 48 || Nat.beq k 75 || Nat.beq k 85 || Nat.beq k 92 || Nat.beq k 97 || Nat.beq k 99 || Nat.beq k 104 || Nat.beq k 106 || Nat.beq k 116 || Nat.beq k 123 || Nat.beq k 138 || Nat.beq k 150 || Nat.beq k 165 || Nat.beq k 177 || Nat.beq k 182 || Nat.beq k 184 || Nat.beq k 199 || Nat.beq k 211 || Nat.beq k 221 || Nat.beq k 228 || Nat.beq k 243 || Nat.beq k 255 || Nat.beq k 265 || Nat.beq k 272 || Nat.beq k 277 || Nat.beq k 279 || Nat.beq k 299 || Nat.beq k 316 || Nat.beq k 321 || Nat.beq k 323 || Nat.beq k 328 || Nat.beq k 330 || Nat.beq k 345 || Nat.beq k 357 || Nat.beq k 367 || Nat.beq k 374 || Nat.beq k 384 || Nat.beq k 391 || Nat.beq k 401 || Nat.beq k 408 || Nat.beq k 428 || Nat.beq k 445 || Nat.beq k 460 || Nat.beq k 472 || Nat.beq k 487 || Nat.beq k 499 || Nat.beq k 524 || Nat.beq k 546 || Nat.beq k 561 || Nat.beq k 573 || Nat.beq k 593 || Nat.beq k 610 || Nat.beq k 620 || Nat.beq k 627 || Nat.beq k 642 || Nat.beq k 654 || Nat.beq k 664 || Nat.beq k 671 || Nat.beq k 696 || Nat.beq k 718 || Nat.beq k 728 || Nat.beq k 735 || Nat.beq k 745 || Nat.beq k 752 || Nat.beq k 762 || Nat.beq k 769) 3 _ _ _ _ _ _ _ _ _ _ _ _ h
set_option maxRecDepth 8000 in
theorem lw_6 {d : Nat} {I : XI} {L : XL} {D : GD} {post : XQ}  {c s : Nat} {i : Int} (hd : 5 ≤ d) (h : (((0 ≤ (i + (1 : Int)) ∧ (i + (1 : Int)) < (D.2.2.2.2 : Int))) ∧ (((0 ≤ (i + (2 : Int)) ∧ (i + (2 : Int)) < (D.2.2.2.2 : Int))) ∧ ((CO (I 10) (I 11) (I 12) (I 13) (I 14) (I 15) (I 16) (I 17) (I 18) (I 111) ∧ (-2147483648 ≤ (D.2.2.2.1 (i + (1 : Int))) ∧ (D.2.2.2.1 (i + (1 : Int))) ≤ 2147483647) ∧ (-2147483648 ≤ (D.2.2.2.1 (i + (2 : Int))) ∧ (D.2.2.2.1 (i + (2 : Int))) ≤ 2147483647)) ∧ ((SO (I 111) ∧ (-2147483648 ≤ (D.2.2.2.1 (i + (1 : Int))) ∧ (D.2.2.2.1 (i + (1 : Int))) ≤ 2147483647) ∧ (-2147483648 ≤ (D.2.2.2.1 (i + (2 : Int))) ∧ (D.2.2.2.1 (i + (2 : Int))) ≤ 2147483647)) ∧ (((-2147483648 ≤ (qguest (cvw (I 10) (I 11) (I 12) (I 13) (I 14) (I 16) (I 17) (I 18) (I 111)) (D.2.2.2.1 (i + (1 : Int))) (D.2.2.2.1 (i + (2 : Int)))) ∧ (qguest (cvw (I 10) (I 11) (I 12) (I 13) (I 14) (I 16) (I 17) (I 18) (I 111)) (D.2.2.2.1 (i + (1 : Int))) (D.2.2.2.1 (i + (2 : Int)))) ≤ 2147483647) ∧ (-2147483648 ≤ (qguest (I 111) (D.2.2.2.1 (i + (1 : Int))) (D.2.2.2.1 (i + (2 : Int)))) ∧ (qguest (I 111) (D.2.2.2.1 (i + (1 : Int))) (D.2.2.2.1 (i + (2 : Int)))) ≤ 2147483647)) ∧ (((qguest (cvw (I 10) (I 11) (I 12) (I 13) (I 14) (I 16) (I 17) (I 18) (I 111)) (D.2.2.2.1 (i + (1 : Int))) (D.2.2.2.1 (i + (2 : Int)))) = (qguest (I 111) (D.2.2.2.1 (i + (1 : Int))) (D.2.2.2.1 (i + (2 : Int)))) → xR d 264 es_264 10 [xt 2, xr (some 0), xr (some 101), xi (i + (6 : Int))] [] I L (gG D) c s post) ∧ (¬ (qguest (cvw (I 10) (I 11) (I 12) (I 13) (I 14) (I 16) (I 17) (I 18) (I 111)) (D.2.2.2.1 (i + (1 : Int))) (D.2.2.2.1 (i + (2 : Int)))) = (qguest (I 111) (D.2.2.2.1 (i + (1 : Int))) (D.2.2.2.1 (i + (2 : Int)))) → post (some (xi (0 : Int))) I L (gG D))))))))) : xR d 264 es_264 154 [xt 2, xr (some 0), xr (some 101), xi i] [] I L (gG D) c s post := sg_264_154  (⟨h.1, ⟨h.2.1, (xR_cF rfl rfl rfl (c_119 h.2.2.1) (by omega) (sg_264_166  ⟨h.1, ⟨h.2.1, (xR_cF rfl rfl rfl (c_205 h.2.2.2.1) (by omega) (sg_264_178  ⟨⟨h.2.2.2.2.1.1, h.2.2.2.2.1.2⟩, ⟨fun q2584 => (h.2.2.2.2.2.1 q2584), fun q2585 => ⟨(by decide), (h.2.2.2.2.2.2 q2585)⟩⟩⟩))⟩⟩))⟩⟩)
theorem ls_6 {I : XI} {L : XL} {D : GD} {d c s : Nat} {post : XQ} {i : Int} (hd : 5 ≤ d) (hi : 0 ≤ i ∧ i + 6 ≤ (D.2.2.2.2 : Int)) (hsc : ∀ j, xrg (D.2.2.2.1 j)) (hr : REL I D) (hc : ∀ I2 L2, REL I2 D → xR d 264 es_264 10 [xt 2, xr (some 0), xr (some 101), xi (i + 6)] [] I2 L2 (gG D) c s post) : xR d 264 es_264 154 [xt 2, xr (some 0), xr (some 101), xi i] [] I L (gG D) c s post := by
  have hrr := hr.rr
  obtain ⟨h1, h2, h3, h4, h5, h6, ⟨h70, h71, h72, h73⟩, h8⟩ := hr
  have hC := h2.2.1
  have hn := hC.n
  have hg := hC.g
  have htn := hC.turn
  have s1 := hsc (i + 1)
  have s2 := hsc (i + 2)
  have s3 := hsc (i + 3)
  have s4 := hsc (i + 4)
  have hrow := h2.1
  have e0 : I 111 0 = I 10 0 := congrFun hrow 0
  have e1 : I 111 1 = I 16 1 := congrFun hrow 1
  have e2 : I 111 2 = I 10 2 := congrFun hrow 2
  have e3 : I 111 3 = I 10 3 := congrFun hrow 3
  have e4 : I 111 4 = I 10 4 := congrFun hrow 4
  have e10 : I 111 10 = I 16 2 := congrFun hrow 10
  have hS : SO (I 111) := by rw [hrow]; exact hC.1
  have ef : I 101 21 = I 6 2 := h3.2.2.2.1.symm
  have ers : I 101 2 = (D.1 : Int) := h3.2.1
  have erc : I 0 4 = (D.1 : Int) := h3.1
  have hD := h3.2.2.1
  have hfr := h3.2.2.2.2.1
  have ht9 := h2.2.2.1
  have hf0 := hC.f
  have hRf := h3.2.2.2.2.2.1 (I 6 2) hfr.1 hfr.2
  have hRO : RO (I 103) (I 105) (I 106) (I 101 21) := by rw [ef]; exact h3.2.2.2.2.2.2.1 (I 6 2) hfr.1 hfr.2
  have hRO2 : RO (I 103) (I 105) (I 106) (I 6 2) := h3.2.2.2.2.2.2.1 (I 6 2) hfr.1 hfr.2
  have ekk : I 101 23 = 0 := h5.2.2
  have ex : I 101 22 = I 6 3 := h4.1.symm
  have hx := h4.2
  have etp : I 101 1 = I 1 6 := h1.1.symm
  have htp := h1.2.1
  have eun : I 101 25 = I 88 0 := h6.1.symm
  have hun := h6.2.1
  have hnx := h6.2.2.1
  refine lw_6 (by omega) ?_
  rw [← hrow]
  have hq := qguest_rg hS (D.2.2.2.1 (i + 1)) (D.2.2.2.1 (i + 2))
  repeat' first | (with_reducible intro _) | (with_reducible refine And.intro ?_ ?_)
  all_goals first | omega | assumption | exact hq.1 | exact hq.2 | (exact absurd rfl (by assumption)) | exact hc _ _ ⟨h1, h2, h3, h4, h5, h6, ⟨h70, h71, h72, h73⟩, h8⟩
set_option maxRecDepth 8000 in
theorem sg_264_658 {d : Nat} {I : XI} {L : XL} {D : GD} {post : XQ} {c s : Nat} {u3 : Int} (h : ((0 ≤ (u3 + (1 : Int)) ∧ (u3 + (1 : Int)) < (D.2.2.2.2 : Int)) ∧ xR d 264 es_264 664 [xt 2, xr (some 0), xr (some 101), xi u3] [xi (D.2.2.2.1 (u3 + (1 : Int))), xr (some 0)] I L (gG D) c s post)) : xR d 264 es_264 658 [xt 2, xr (some 0), xr (some 101), xi u3] [] I L (gG D) c s post := xW_R (fun k => Nat.beq k 2 || Nat.beq k 6 || Nat.beq k 10 || Nat.beq k 48 || Nat.beq k 75 || Nat.beq k 85 || Nat.beq k 92 || Nat.beq k 97 || Nat.beq k 99 || Nat.beq k 104 || Nat.beq k 106 || Nat.beq k 116 || Nat.beq k 123 || Nat.beq k 138 || Nat.beq k 150 || Nat.beq k 165 || Nat.beq k 177 || Nat.beq k 182 || Nat.beq k 184 || Nat.beq k 199 || Nat.beq k 211 || Nat.beq k 221 || Nat.beq k 228 || Nat.beq k 243 || Nat.beq k 255 || Nat.beq k 265 || Nat.beq k 272 || Nat.beq k 277 || Nat.beq k 279 || Nat.beq k 299 || Nat.beq k 316 || Nat.beq k 321 || Nat.beq k 323 || Nat.beq k 328 || Nat.beq k 330 || Nat.beq k 345 || Nat.beq k 357 || Nat.beq k 367 || Nat.beq k 374 || Nat.beq k 384 || Nat.beq k 391 || Nat.beq k 401 || Nat.beq k 408 || Nat.beq k 428 || Nat.beq k 445 || Nat.beq k 460 || Nat.beq k 472 || Nat.beq k 487 || Nat.beq k 499 || Nat.beq k 524 || Nat.beq k 546 || Nat.beq k 561 || Nat.beq k 573 || Nat.beq k 593 || Nat.beq k 610 || Nat.beq k 620 || Nat.beq k 627 || Nat.beq k 642 || Nat.beq k 654 || Nat.beq k 664 || Nat.beq k 671 || Nat.beq k 696 || Nat.beq k 718 || Nat.beq k 728 || Nat.beq k 735 || Nat.beq k 745 || Nat.beq k 752 || Nat.beq k 762 || Nat.beq k 769) 6 _ _ _ _ _ _ _ _ _ _ _ _ h
set_option maxRecDepth 8000 in
theorem sg_264_665 {d : Nat} {I : XI} {L : XL} {D : GD} {post : XQ} {c s : Nat} {u3 : Int} {w0 : Int} (h : ((0 ≤ (u3 + (1 : Int)) ∧ (u3 + (1 : Int)) < (D.2.2.2.2 : Int)) ∧ xR d 264 es_264 671 [xt 2, xr (some 0), xr (some 101), xi u3] [xi (D.2.2.2.1 (u3 + (1 : Int))), xr (some 101), xi w0] I L (gG D) c s post)) : xR d 264 es_264 665 [xt 2, xr (some 0), xr (some 101), xi u3] [xi w0] I L (gG D) c s post := xW_R (fun k => Nat.beq k 2 || Nat.beq k 6 || Nat.beq k 10 || Nat.beq k 48 || Nat.beq k 75 || Nat.beq k 85 || Nat.beq k 92 || Nat.beq k 97 || Nat.beq k 99 || Nat.beq k 104 || Nat.beq k 106 || Nat.beq k 116 || Nat.beq k 123 || Nat.beq k 138 || Nat.beq k 150 || Nat.beq k 165 || Nat.beq k 177 || Nat.beq k 182 || Nat.beq k 184 || Nat.beq k 199 || Nat.beq k 211 || Nat.beq k 221 || Nat.beq k 228 || Nat.beq k 243 || Nat.beq k 255 || Nat.beq k 265 || Nat.beq k 272 || Nat.beq k 277 || Nat.beq k 279 || Nat.beq k 299 || Nat.beq k 316 || Nat.beq k 321 || Nat.beq k 323 || Nat.beq k 328 || Nat.beq k 330 || Nat.beq k 345 || Nat.beq k 357 || Nat.beq k 367 || Nat.beq k 374 || Nat.beq k 384 || Nat.beq k 391 || Nat.beq k 401 || Nat.beq k 408 || Nat.beq k 428 || Nat.beq k 445 || Nat.beq k 460 || Nat.beq k 472 || Nat.beq k 487 || Nat.beq k 499 || Nat.beq k 524 || Nat.beq k 546 || Nat.beq k 561 || Nat.beq k 573 || Nat.beq k 593 || Nat.beq k 610 || Nat.beq k 620 || Nat.beq k 627 || Nat.beq k 642 || Nat.beq k 654 || Nat.beq k 664 || Nat.beq k 671 || Nat.beq k 696 || Nat.beq k 718 || Nat.beq k 728 || Nat.beq k 735 || Nat.beq k 745 || Nat.beq k 752 || Nat.beq k 762 || Nat.beq k 769) 6 _ _ _ _ _ _ _ _ _ _ _ _ h
set_option maxRecDepth 8000 in
theorem sg_264_672 {d : Nat} {I : XI} {L : XL} {D : GD} {post : XQ} {c s : Nat} {u3 : Int} {w0 : Int} {w1 : Int} (h : (((-2147483648 ≤ w0 ∧ w0 ≤ 2147483647) ∧ (-2147483648 ≤ w1 ∧ w1 ≤ 2147483647)) ∧ ((w0 = w1 → xR d 264 es_264 10 [xt 2, xr (some 0), xr (some 101), xi (u3 + (6 : Int))] [] I L (gG D) c s post) ∧ (¬ w0 = w1 → (((0 : Int) = 0 ∨ (0 : Int) = 1) ∧ post (some (xi (0 : Int))) I L (gG D)))))) : xR d 264 es_264 672 [xt 2, xr (some 0), xr (some 101), xi u3] [xi w1, xi w0] I L (gG D) c s post := xW_R (fun k => Nat.beq k 2 || Nat.beq k 6 || Nat.beq k 10 || Nat.beq k 48 || Nat.beq k 75 || Nat.beq k 85 || Nat.beq k 92 || Nat.beq k 97 || Nat.beq k 99 || Nat.beq k 104 || Nat.beq k 106 || Nat.beq k 116 || Nat.beq k 123 || Nat.beq k 138 || Nat.beq k 150 || Nat.beq k 165 || Nat.beq k 177 || Nat.beq k 182 || Nat.beq k 184 || Nat.beq k 199 || Nat.beq k 211 || Nat.beq k 221 || Nat.beq k 228 || Nat.beq k 243 || Nat.beq k 255 || Nat.beq k 265 || Nat.beq k 272 || Nat.beq k 277 || Nat.beq k 279 || Nat.beq k 299 || Nat.beq k 316 || Nat.beq k 321 || Nat.beq k 323 || Nat.beq k 328 || Nat.beq k 330 || Nat.beq k 345 || Nat.beq k 357 || Nat.beq k 367 || Nat.beq k 374 || Nat.beq k 384 || Nat.beq k 391 || Nat.beq k 401 || Nat.beq k 408 || Nat.beq k 428 || Nat.beq k 445 || Nat.beq k 460 || Nat.beq k 472 || Nat.beq k 487 || Nat.beq k 499 || Nat.beq k 524 || Nat.beq k 546 || Nat.beq k 561 || Nat.beq k 573 || Nat.beq k 593 || Nat.beq k 610 || Nat.beq k 620 || Nat.beq k 627 || Nat.beq k 642 || Nat.beq k 654 || Nat.beq k 664 || Nat.beq k 671 || Nat.beq k 696 || Nat.beq k 718 || Nat.beq k 728 || Nat.beq k 735 || Nat.beq k 745 || Nat.beq k 752 || Nat.beq k 762 || Nat.beq k 769) 3 _ _ _ _ _ _ _ _ _ _ _ _ h
set_option maxRecDepth 8000 in
theorem lw_28 {d : Nat} {I : XI} {L : XL} {D : GD} {post : XQ}  {c s : Nat} {i : Int} (hd : 1 ≤ d) (h : (((0 ≤ (i + (1 : Int)) ∧ (i + (1 : Int)) < (D.2.2.2.2 : Int))) ∧ ((-2147483648 ≤ (D.2.2.2.1 (i + (1 : Int))) ∧ (D.2.2.2.1 (i + (1 : Int))) ≤ 2147483647) ∧ (((-2147483648 ≤ (if (D.2.2.2.1 (i + (1 : Int))) < 0 then -1 else I 6 (3 : Int)) ∧ (if (D.2.2.2.1 (i + (1 : Int))) < 0 then -1 else I 6 (3 : Int)) ≤ 2147483647) ∧ (-2147483648 ≤ (if (D.2.2.2.1 (i + (1 : Int))) < 0 then -1 else I 101 (22 : Int)) ∧ (if (D.2.2.2.1 (i + (1 : Int))) < 0 then -1 else I 101 (22 : Int)) ≤ 2147483647)) ∧ (((if (D.2.2.2.1 (i + (1 : Int))) < 0 then -1 else I 6 (3 : Int)) = (if (D.2.2.2.1 (i + (1 : Int))) < 0 then -1 else I 101 (22 : Int)) → xR d 264 es_264 10 [xt 2, xr (some 0), xr (some 101), xi (i + (6 : Int))] [] (xsc (xsc I 6 (xup (I 6) (3 : Int) (if (D.2.2.2.1 (i + (1 : Int))) < 0 then I 6 (3 : Int) else (D.2.2.2.1 (i + (1 : Int)))))) 101 (xup (I 101) (22 : Int) (if (D.2.2.2.1 (i + (1 : Int))) < 0 then I 101 (22 : Int) else (D.2.2.2.1 (i + (1 : Int)))))) L (gG D) c s post) ∧ (¬ (if (D.2.2.2.1 (i + (1 : Int))) < 0 then -1 else I 6 (3 : Int)) = (if (D.2.2.2.1 (i + (1 : Int))) < 0 then -1 else I 101 (22 : Int)) → post (some (xi (0 : Int))) (xsc (xsc I 6 (xup (I 6) (3 : Int) (if (D.2.2.2.1 (i + (1 : Int))) < 0 then I 6 (3 : Int) else (D.2.2.2.1 (i + (1 : Int)))))) 101 (xup (I 101) (22 : Int) (if (D.2.2.2.1 (i + (1 : Int))) < 0 then I 101 (22 : Int) else (D.2.2.2.1 (i + (1 : Int)))))) L (gG D))))))) : xR d 264 es_264 658 [xt 2, xr (some 0), xr (some 101), xi i] [] I L (gG D) c s post := sg_264_658  (⟨h.1, (xR_cF rfl rfl rfl (c_141 h.2.1) (by omega) (sg_264_665  ⟨h.1, (xR_cF rfl rfl rfl (c_254 h.2.1) (by omega) (sg_264_672  ⟨⟨h.2.2.1.1, h.2.2.1.2⟩, ⟨fun q2586 => (h.2.2.2.1 q2586), fun q2587 => ⟨(by decide), (h.2.2.2.2 q2587)⟩⟩⟩))⟩))⟩)
theorem ls_28 {I : XI} {L : XL} {D : GD} {d c s : Nat} {post : XQ} {i : Int} (hd : 5 ≤ d) (hi : 0 ≤ i ∧ i + 6 ≤ (D.2.2.2.2 : Int)) (hsc : ∀ j, xrg (D.2.2.2.1 j)) (hr : REL I D) (hc : ∀ I2 L2, REL I2 D → xR d 264 es_264 10 [xt 2, xr (some 0), xr (some 101), xi (i + 6)] [] I2 L2 (gG D) c s post) : xR d 264 es_264 658 [xt 2, xr (some 0), xr (some 101), xi i] [] I L (gG D) c s post := by
  have hrr := hr.rr
  obtain ⟨h1, h2, h3, h4, h5, h6, ⟨h70, h71, h72, h73⟩, h8⟩ := hr
  have hC := h2.2.1
  have hn := hC.n
  have hg := hC.g
  have htn := hC.turn
  have s1 := hsc (i + 1)
  have s2 := hsc (i + 2)
  have s3 := hsc (i + 3)
  have s4 := hsc (i + 4)
  have hrow := h2.1
  have e0 : I 111 0 = I 10 0 := congrFun hrow 0
  have e1 : I 111 1 = I 16 1 := congrFun hrow 1
  have e2 : I 111 2 = I 10 2 := congrFun hrow 2
  have e3 : I 111 3 = I 10 3 := congrFun hrow 3
  have e4 : I 111 4 = I 10 4 := congrFun hrow 4
  have e10 : I 111 10 = I 16 2 := congrFun hrow 10
  have hS : SO (I 111) := by rw [hrow]; exact hC.1
  have ef : I 101 21 = I 6 2 := h3.2.2.2.1.symm
  have ers : I 101 2 = (D.1 : Int) := h3.2.1
  have erc : I 0 4 = (D.1 : Int) := h3.1
  have hD := h3.2.2.1
  have hfr := h3.2.2.2.2.1
  have ht9 := h2.2.2.1
  have hf0 := hC.f
  have hRf := h3.2.2.2.2.2.1 (I 6 2) hfr.1 hfr.2
  have hRO : RO (I 103) (I 105) (I 106) (I 101 21) := by rw [ef]; exact h3.2.2.2.2.2.2.1 (I 6 2) hfr.1 hfr.2
  have hRO2 : RO (I 103) (I 105) (I 106) (I 6 2) := h3.2.2.2.2.2.2.1 (I 6 2) hfr.1 hfr.2
  have ekk : I 101 23 = 0 := h5.2.2
  have ex : I 101 22 = I 6 3 := h4.1.symm
  have hx := h4.2
  have etp : I 101 1 = I 1 6 := h1.1.symm
  have htp := h1.2.1
  have eun : I 101 25 = I 88 0 := h6.1.symm
  have hun := h6.2.1
  have hnx := h6.2.2.1
  refine lw_28 (by omega) ?_
  rw [ex]
  repeat' first | (with_reducible intro _) | (with_reducible refine And.intro ?_ ?_)
  all_goals first | omega | (split <;> omega) | (exact absurd rfl (by assumption)) | skip
  refine hc _ _ ⟨h1, h2, h3, ?_, h5, h6, ⟨h70, h71, h72, h73⟩, h8⟩
  show R4 (if _ then _ else _) (if _ then _ else _)
  split
  · exact ⟨rfl, hx⟩
  · exact ⟨rfl, by omega⟩
set_option maxRecDepth 8000 in
theorem sg_264_110 {d : Nat} {I : XI} {L : XL} {D : GD} {post : XQ} {c s : Nat} {u3 : Int} (h : ((0 ≤ (u3 + (1 : Int)) ∧ (u3 + (1 : Int)) < (D.2.2.2.2 : Int)) ∧ xR d 264 es_264 116 [xt 2, xr (some 0), xr (some 101), xi u3] [xi (D.2.2.2.1 (u3 + (1 : Int))), xr (some 0)] I L (gG D) c s post)) : xR d 264 es_264 110 [xt 2, xr (some 0), xr (some 101), xi u3] [] I L (gG D) c s post := xW_R (fun k => Nat.beq k 2 || Nat.beq k 6 || Nat.beq k 10 || Nat.beq k 48 || Nat.beq k 75 || Nat.beq k 85 || Nat.beq k 92 || Nat.beq k 97 || Nat.beq k 99 || Nat.beq k 104 || Nat.beq k 106 || Nat.beq k 116 || Nat.beq k 123 || Nat.beq k 138 || Nat.beq k 150 || Nat.beq k 165 || Nat.beq k 177 || Nat.beq k 182 || Nat.beq k 184 || Nat.beq k 199 || Nat.beq k 211 || Nat.beq k 221 || Nat.beq k 228 || Nat.beq k 243 || Nat.beq k 255 || Nat.beq k 265 || Nat.beq k 272 || Nat.beq k 277 || Nat.beq k 279 || Nat.beq k 299 || Nat.beq k 316 || Nat.beq k 321 || Nat.beq k 323 || Nat.beq k 328 || Nat.beq k 330 || Nat.beq k 345 || Nat.beq k 357 || Nat.beq k 367 || Nat.beq k 374 || Nat.beq k 384 || Nat.beq k 391 || Nat.beq k 401 || Nat.beq k 408 || Nat.beq k 428 || Nat.beq k 445 || Nat.beq k 460 || Nat.beq k 472 || Nat.beq k 487 || Nat.beq k 499 || Nat.beq k 524 || Nat.beq k 546 || Nat.beq k 561 || Nat.beq k 573 || Nat.beq k 593 || Nat.beq k 610 || Nat.beq k 620 || Nat.beq k 627 || Nat.beq k 642 || Nat.beq k 654 || Nat.beq k 664 || Nat.beq k 671 || Nat.beq k 696 || Nat.beq k 718 || Nat.beq k 728 || Nat.beq k 735 || Nat.beq k 745 || Nat.beq k 752 || Nat.beq k 762 || Nat.beq k 769) 6 _ _ _ _ _ _ _ _ _ _ _ _ h
set_option maxRecDepth 8000 in
theorem sg_264_117 {d : Nat} {I : XI} {L : XL} {D : GD} {post : XQ} {c s : Nat} {u3 : Int} {w0 : Int} (h : ((0 ≤ (u3 + (1 : Int)) ∧ (u3 + (1 : Int)) < (D.2.2.2.2 : Int)) ∧ xR d 264 es_264 123 [xt 2, xr (some 0), xr (some 101), xi u3] [xi (D.2.2.2.1 (u3 + (1 : Int))), xr (some 101), xi w0] I L (gG D) c s post)) : xR d 264 es_264 117 [xt 2, xr (some 0), xr (some 101), xi u3] [xi w0] I L (gG D) c s post := xW_R (fun k => Nat.beq k 2 || Nat.beq k 6 || Nat.beq k 10 || Nat.beq k 48 || Nat.beq k 75 || Nat.beq k 85 || Nat.beq k 92 || Nat.beq k 97 || Nat.beq k 99 || Nat.beq k 104 || Nat.beq k 106 || Nat.beq k 116 || Nat.beq k 123 || Nat.beq k 138 || Nat.beq k 150 || Nat.beq k 165 || Nat.beq k 177 || Nat.beq k 182 || Nat.beq k 184 || Nat.beq k 199 || Nat.beq k 211 || Nat.beq k 221 || Nat.beq k 228 || Nat.beq k 243 || Nat.beq k 255 || Nat.beq k 265 || Nat.beq k 272 || Nat.beq k 277 || Nat.beq k 279 || Nat.beq k 299 || Nat.beq k 316 || Nat.beq k 321 || Nat.beq k 323 || Nat.beq k 328 || Nat.beq k 330 || Nat.beq k 345 || Nat.beq k 357 || Nat.beq k 367 || Nat.beq k 374 || Nat.beq k 384 || Nat.beq k 391 || Nat.beq k 401 || Nat.beq k 408 || Nat.beq k 428 || Nat.beq k 445 || Nat.beq k 460 || Nat.beq k 472 || Nat.beq k 487 || Nat.beq k 499 || Nat.beq k 524 || Nat.beq k 546 || Nat.beq k 561 || Nat.beq k 573 || Nat.beq k 593 || Nat.beq k 610 || Nat.beq k 620 || Nat.beq k 627 || Nat.beq k 642 || Nat.beq k 654 || Nat.beq k 664 || Nat.beq k 671 || Nat.beq k 696 || Nat.beq k 718 || Nat.beq k 728 || Nat.beq k 735 || Nat.beq k 745 || Nat.beq k 752 || Nat.beq k 762 || Nat.beq k 769) 6 _ _ _ _ _ _ _ _ _ _ _ _ h
set_option maxRecDepth 8000 in
theorem sg_264_124 {d : Nat} {I : XI} {L : XL} {D : GD} {post : XQ} {c s : Nat} {u3 : Int} {w0 : Int} {w1 : Int} (h : (((-2147483648 ≤ w0 ∧ w0 ≤ 2147483647) ∧ (-2147483648 ≤ w1 ∧ w1 ≤ 2147483647)) ∧ ((w0 = w1 → xR d 264 es_264 10 [xt 2, xr (some 0), xr (some 101), xi (u3 + (6 : Int))] [] I L (gG D) c s post) ∧ (¬ w0 = w1 → (((0 : Int) = 0 ∨ (0 : Int) = 1) ∧ post (some (xi (0 : Int))) I L (gG D)))))) : xR d 264 es_264 124 [xt 2, xr (some 0), xr (some 101), xi u3] [xi w1, xi w0] I L (gG D) c s post := xW_R (fun k => Nat.beq k 2 || Nat.beq k 6 || Nat.beq k 10 || Nat.beq k 48 || Nat.beq k 75 || Nat.beq k 85 || Nat.beq k 92 || Nat.beq k 97 || Nat.beq k 99 || Nat.beq k 104 || Nat.beq k 106 || Nat.beq k 116 || Nat.beq k 123 || Nat.beq k 138 || Nat.beq k 150 || Nat.beq k 165 || Nat.beq k 177 || Nat.beq k 182 || Nat.beq k 184 || Nat.beq k 199 || Nat.beq k 211 || Nat.beq k 221 || Nat.beq k 228 || Nat.beq k 243 || Nat.beq k 255 || Nat.beq k 265 || Nat.beq k 272 || Nat.beq k 277 || Nat.beq k 279 || Nat.beq k 299 || Nat.beq k 316 || Nat.beq k 321 || Nat.beq k 323 || Nat.beq k 328 || Nat.beq k 330 || Nat.beq k 345 || Nat.beq k 357 || Nat.beq k 367 || Nat.beq k 374 || Nat.beq k 384 || Nat.beq k 391 || Nat.beq k 401 || Nat.beq k 408 || Nat.beq k 428 || Nat.beq k 445 || Nat.beq k 460 || Nat.beq k 472 || Nat.beq k 487 || Nat.beq k 499 || Nat.beq k 524 || Nat.beq k 546 || Nat.beq k 561 || Nat.beq k 573 || Nat.beq k 593 || Nat.beq k 610 || Nat.beq k 620 || Nat.beq k 627 || Nat.beq k 642 || Nat.beq k 654 || Nat.beq k 664 || Nat.beq k 671 || Nat.beq k 696 || Nat.beq k 718 || Nat.beq k 728 || Nat.beq k 735 || Nat.beq k 745 || Nat.beq k 752 || Nat.beq k 762 || Nat.beq k 769) 3 _ _ _ _ _ _ _ _ _ _ _ _ h
set_option maxRecDepth 8000 in
theorem lw_4 {d : Nat} {I : XI} {L : XL} {D : GD} {post : XQ}  {c s : Nat} {i : Int} (hd : 2 ≤ d) (h : (((0 ≤ (i + (1 : Int)) ∧ (i + (1 : Int)) < (D.2.2.2.2 : Int))) ∧ (((-2147483648 ≤ (D.2.2.2.1 (i + (1 : Int))) ∧ (D.2.2.2.1 (i + (1 : Int))) ≤ 2147483647) ∧ (0 ≤ I 0 (4 : Int) ∧ I 0 (4 : Int) ≤ 6)) ∧ (((-2147483648 ≤ (D.2.2.2.1 (i + (1 : Int))) ∧ (D.2.2.2.1 (i + (1 : Int))) ≤ 2147483647) ∧ (-2147483648 ≤ (I 101 (2 : Int)) ∧ (I 101 (2 : Int)) ≤ 2147483647)) ∧ (((-2147483648 ≤ (qforce (D.2.2.2.1 (i + (1 : Int))) (I 6 (2 : Int)) (I 0 (4 : Int))) ∧ (qforce (D.2.2.2.1 (i + (1 : Int))) (I 6 (2 : Int)) (I 0 (4 : Int))) ≤ 2147483647) ∧ (-2147483648 ≤ (qforce (D.2.2.2.1 (i + (1 : Int))) (I 101 (21 : Int)) (I 101 (2 : Int))) ∧ (qforce (D.2.2.2.1 (i + (1 : Int))) (I 101 (21 : Int)) (I 101 (2 : Int))) ≤ 2147483647)) ∧ (((qforce (D.2.2.2.1 (i + (1 : Int))) (I 6 (2 : Int)) (I 0 (4 : Int))) = (qforce (D.2.2.2.1 (i + (1 : Int))) (I 101 (21 : Int)) (I 101 (2 : Int))) → xR d 264 es_264 10 [xt 2, xr (some 0), xr (some 101), xi (i + (6 : Int))] [] (xsc (xsc I 6 (xup (I 6) (2 : Int) (qforced (D.2.2.2.1 (i + (1 : Int))) (I 6 (2 : Int)) (I 0 (4 : Int))))) 101 (xup (I 101) (21 : Int) (qforced (D.2.2.2.1 (i + (1 : Int))) (I 101 (21 : Int)) (I 101 (2 : Int))))) L (gG D) c s post) ∧ (¬ (qforce (D.2.2.2.1 (i + (1 : Int))) (I 6 (2 : Int)) (I 0 (4 : Int))) = (qforce (D.2.2.2.1 (i + (1 : Int))) (I 101 (21 : Int)) (I 101 (2 : Int))) → post (some (xi (0 : Int))) (xsc (xsc I 6 (xup (I 6) (2 : Int) (qforced (D.2.2.2.1 (i + (1 : Int))) (I 6 (2 : Int)) (I 0 (4 : Int))))) 101 (xup (I 101) (21 : Int) (qforced (D.2.2.2.1 (i + (1 : Int))) (I 101 (21 : Int)) (I 101 (2 : Int))))) L (gG D)))))))) : xR d 264 es_264 110 [xt 2, xr (some 0), xr (some 101), xi i] [] I L (gG D) c s post := sg_264_110  (⟨h.1, (xR_cF rfl rfl rfl (c_117 h.2.1) (by omega) (sg_264_117  ⟨h.1, (xR_cF rfl rfl rfl (c_203 h.2.2.1) (by omega) (sg_264_124  ⟨⟨h.2.2.2.1.1, h.2.2.2.1.2⟩, ⟨fun q2588 => (h.2.2.2.2.1 q2588), fun q2589 => ⟨(by decide), (h.2.2.2.2.2 q2589)⟩⟩⟩))⟩))⟩)
theorem ls_4 {I : XI} {L : XL} {D : GD} {d c s : Nat} {post : XQ} {i : Int} (hd : 5 ≤ d) (hi : 0 ≤ i ∧ i + 6 ≤ (D.2.2.2.2 : Int)) (hsc : ∀ j, xrg (D.2.2.2.1 j)) (hr : REL I D) (hc : ∀ I2 L2, REL I2 D → xR d 264 es_264 10 [xt 2, xr (some 0), xr (some 101), xi (i + 6)] [] I2 L2 (gG D) c s post) : xR d 264 es_264 110 [xt 2, xr (some 0), xr (some 101), xi i] [] I L (gG D) c s post := by
  have hrr := hr.rr
  obtain ⟨h1, h2, h3, h4, h5, h6, ⟨h70, h71, h72, h73⟩, h8⟩ := hr
  have hC := h2.2.1
  have hn := hC.n
  have hg := hC.g
  have htn := hC.turn
  have s1 := hsc (i + 1)
  have s2 := hsc (i + 2)
  have s3 := hsc (i + 3)
  have s4 := hsc (i + 4)
  have hrow := h2.1
  have e0 : I 111 0 = I 10 0 := congrFun hrow 0
  have e1 : I 111 1 = I 16 1 := congrFun hrow 1
  have e2 : I 111 2 = I 10 2 := congrFun hrow 2
  have e3 : I 111 3 = I 10 3 := congrFun hrow 3
  have e4 : I 111 4 = I 10 4 := congrFun hrow 4
  have e10 : I 111 10 = I 16 2 := congrFun hrow 10
  have hS : SO (I 111) := by rw [hrow]; exact hC.1
  have ef : I 101 21 = I 6 2 := h3.2.2.2.1.symm
  have ers : I 101 2 = (D.1 : Int) := h3.2.1
  have erc : I 0 4 = (D.1 : Int) := h3.1
  have hD := h3.2.2.1
  have hfr := h3.2.2.2.2.1
  have ht9 := h2.2.2.1
  have hf0 := hC.f
  have hRf := h3.2.2.2.2.2.1 (I 6 2) hfr.1 hfr.2
  have hRO : RO (I 103) (I 105) (I 106) (I 101 21) := by rw [ef]; exact h3.2.2.2.2.2.2.1 (I 6 2) hfr.1 hfr.2
  have hRO2 : RO (I 103) (I 105) (I 106) (I 6 2) := h3.2.2.2.2.2.2.1 (I 6 2) hfr.1 hfr.2
  have ekk : I 101 23 = 0 := h5.2.2
  have ex : I 101 22 = I 6 3 := h4.1.symm
  have hx := h4.2
  have etp : I 101 1 = I 1 6 := h1.1.symm
  have htp := h1.2.1
  have eun : I 101 25 = I 88 0 := h6.1.symm
  have hun := h6.2.1
  have hnx := h6.2.2.1
  refine lw_4 (by omega) ?_
  rw [ef, erc, ers]
  repeat' first | (with_reducible intro _) | (with_reducible refine And.intro ?_ ?_)
  all_goals first | omega | (unfold qforce; split <;> omega) | (exact absurd rfl (by assumption)) | skip
  refine hc _ _ ⟨h1, h2, ⟨h3.1, h3.2.1, hD, rfl, ?_, h3.2.2.2.2.2⟩, h4, h5, h6, ⟨h70, h71, h72, h73⟩, h8⟩
  show -1 ≤ qforced _ _ _ ∧ qforced _ _ _ < _
  unfold qforced
  split <;> omega
set_option maxRecDepth 8000 in
theorem sg_264_320 {d : Nat} {I : XI} {L : XL} {D : GD} {post : XQ} {c s : Nat} {u3 : Int} (h : xR d 264 es_264 321 [xt 2, xr (some 0), xr (some 101), xi u3] [xr (some 0)] I L (gG D) c s post) : xR d 264 es_264 320 [xt 2, xr (some 0), xr (some 101), xi u3] [] I L (gG D) c s post := xW_R (fun k => Nat.beq k 2 || Nat.beq k 6 || Nat.beq k 10 || Nat.beq k 48 || Nat.beq k 75 || Nat.beq k 85 || Nat.beq k 92 || Nat.beq k 97 || Nat.beq k 99 || Nat.beq k 104 || Nat.beq k 106 || Nat.beq k 116 || Nat.beq k 123 || Nat.beq k 138 || Nat.beq k 150 || Nat.beq k 165 || Nat.beq k 177 || Nat.beq k 182 || Nat.beq k 184 || Nat.beq k 199 || Nat.beq k 211 || Nat.beq k 221 || Nat.beq k 228 || Nat.beq k 243 || Nat.beq k 255 || Nat.beq k 265 || Nat.beq k 272 || Nat.beq k 277 || Nat.beq k 279 || Nat.beq k 299 || Nat.beq k 316 || Nat.beq k 321 || Nat.beq k 323 || Nat.beq k 328 || Nat.beq k 330 || Nat.beq k 345 || Nat.beq k 357 || Nat.beq k 367 || Nat.beq k 374 || Nat.beq k 384 || Nat.beq k 391 || Nat.beq k 401 || Nat.beq k 408 || Nat.beq k 428 || Nat.beq k 445 || Nat.beq k 460 || Nat.beq k 472 || Nat.beq k 487 || Nat.beq k 499 || Nat.beq k 524 || Nat.beq k 546 || Nat.beq k 561 || Nat.beq k 573 || Nat.beq k 593 || Nat.beq k 610 || Nat.beq k 620 || Nat.beq k 627 || Nat.beq k 642 || Nat.beq k 654 || Nat.beq k 664 || Nat.beq k 671 || Nat.beq k 696 || Nat.beq k 718 || Nat.beq k 728 || Nat.beq k 735 || Nat.beq k 745 || Nat.beq k 752 || Nat.beq k 762 || Nat.beq k 769) 1 _ _ _ _ _ _ _ _ _ _ _ _ h
set_option maxRecDepth 8000 in
theorem sg_264_322 {d : Nat} {I : XI} {L : XL} {D : GD} {post : XQ} {c s : Nat} {u3 : Int} {w0 : Int} (h : xR d 264 es_264 323 [xt 2, xr (some 0), xr (some 101), xi u3] [xr (some 101), xi w0] I L (gG D) c s post) : xR d 264 es_264 322 [xt 2, xr (some 0), xr (some 101), xi u3] [xi w0] I L (gG D) c s post := xW_R (fun k => Nat.beq k 2 || Nat.beq k 6 || Nat.beq k 10 || Nat.beq k 48 || Nat.beq k 75 || Nat.beq k 85 || Nat.beq k 92 || Nat.beq k 97 || Nat.beq k 99 || Nat.beq k 104 || Nat.beq k 106 || Nat.beq k 116 || Nat.beq k 123 || Nat.beq k 138 || Nat.beq k 150 || Nat.beq k 165 || Nat.beq k 177 || Nat.beq k 182 || Nat.beq k 184 || Nat.beq k 199 || Nat.beq k 211 || Nat.beq k 221 || Nat.beq k 228 || Nat.beq k 243 || Nat.beq k 255 || Nat.beq k 265 || Nat.beq k 272 || Nat.beq k 277 || Nat.beq k 279 || Nat.beq k 299 || Nat.beq k 316 || Nat.beq k 321 || Nat.beq k 323 || Nat.beq k 328 || Nat.beq k 330 || Nat.beq k 345 || Nat.beq k 357 || Nat.beq k 367 || Nat.beq k 374 || Nat.beq k 384 || Nat.beq k 391 || Nat.beq k 401 || Nat.beq k 408 || Nat.beq k 428 || Nat.beq k 445 || Nat.beq k 460 || Nat.beq k 472 || Nat.beq k 487 || Nat.beq k 499 || Nat.beq k 524 || Nat.beq k 546 || Nat.beq k 561 || Nat.beq k 573 || Nat.beq k 593 || Nat.beq k 610 || Nat.beq k 620 || Nat.beq k 627 || Nat.beq k 642 || Nat.beq k 654 || Nat.beq k 664 || Nat.beq k 671 || Nat.beq k 696 || Nat.beq k 718 || Nat.beq k 728 || Nat.beq k 735 || Nat.beq k 745 || Nat.beq k 752 || Nat.beq k 762 || Nat.beq k 769) 1 _ _ _ _ _ _ _ _ _ _ _ _ h
set_option maxRecDepth 8000 in
theorem sg_264_324 {d : Nat} {I : XI} {L : XL} {D : GD} {post : XQ} {c s : Nat} {u3 : Int} {w0 : Int} {w1 : Int} (h : (((-2147483648 ≤ w0 ∧ w0 ≤ 2147483647) ∧ (-2147483648 ≤ w1 ∧ w1 ≤ 2147483647)) ∧ ((w0 = w1 → xR d 264 es_264 10 [xt 2, xr (some 0), xr (some 101), xi (u3 + (6 : Int))] [] I L (gG D) c s post) ∧ (¬ w0 = w1 → (((0 : Int) = 0 ∨ (0 : Int) = 1) ∧ post (some (xi (0 : Int))) I L (gG D)))))) : xR d 264 es_264 324 [xt 2, xr (some 0), xr (some 101), xi u3] [xi w1, xi w0] I L (gG D) c s post := xW_R (fun k => Nat.beq k 2 || Nat.beq k 6 || Nat.beq k 10 || Nat.beq k 48 || Nat.beq k 75 || Nat.beq k 85 || Nat.beq k 92 || Nat.beq k 97 || Nat.beq k 99 || Nat.beq k 104 || Nat.beq k 106 || Nat.beq k 116 || Nat.beq k 123 || Nat.beq k 138 || Nat.beq k 150 || Nat.beq k 165 || Nat.beq k 177 || Nat.beq k 182 || Nat.beq k 184 || Nat.beq k 199 || Nat.beq k 211 || Nat.beq k 221 || Nat.beq k 228 || Nat.beq k 243 || Nat.beq k 255 || Nat.beq k 265 || Nat.beq k 272 || Nat.beq k 277 || Nat.beq k 279 || Nat.beq k 299 || Nat.beq k 316 || Nat.beq k 321 || Nat.beq k 323 || Nat.beq k 328 || Nat.beq k 330 || Nat.beq k 345 || Nat.beq k 357 || Nat.beq k 367 || Nat.beq k 374 || Nat.beq k 384 || Nat.beq k 391 || Nat.beq k 401 || Nat.beq k 408 || Nat.beq k 428 || Nat.beq k 445 || Nat.beq k 460 || Nat.beq k 472 || Nat.beq k 487 || Nat.beq k 499 || Nat.beq k 524 || Nat.beq k 546 || Nat.beq k 561 || Nat.beq k 573 || Nat.beq k 593 || Nat.beq k 610 || Nat.beq k 620 || Nat.beq k 627 || Nat.beq k 642 || Nat.beq k 654 || Nat.beq k 664 || Nat.beq k 671 || Nat.beq k 696 || Nat.beq k 718 || Nat.beq k 728 || Nat.beq k 735 || Nat.beq k 745 || Nat.beq k 752 || Nat.beq k 762 || Nat.beq k 769) 3 _ _ _ _ _ _ _ _ _ _ _ _ h
set_option maxRecDepth 8000 in
theorem lw_14 {d : Nat} {I : XI} {L : XL} {D : GD} {post : XQ}  {c s : Nat} {i : Int} (hd : 8 ≤ d) (h : ((CO (I 10) (I 11) (I 12) (I 13) (I 14) (I 15) (I 16) (I 17) (I 18) (I 111) ∧ I 16 (2 : Int) ≤ 1000 ∧ CRO (I 127) (I 128) (I 130) (I 131) (I 133) (I 134) (I 136) (I 137) (I 139) (I 140) (I 142) (I 143) D (I 6 (2 : Int))) ∧ (∀ (e2590 : Int) (e2591 : Int) (e2592 : Int → Int) (e2593 : Int → Int) (e2594 : Int → Int64) (e2595 : Int → Int64), ((SO (I 111) ∧ I 111 (10 : Int) ≤ 1000 ∧ RO (I 103) (I 105) (I 106) (I 101 (21 : Int))) ∧ (∀ (e2596 : Int) (e2597 : Int → Int64) (e2598 : Int → Int64) (e2599 : Int → Int), (((-2147483648 ≤ (if I 10 (0 : Int) = 1 then pleft (I 6 (2 : Int)) (cR (I 127) (I 128) (I 130) (I 131) (I 133) (I 134) (I 136) (I 137) (I 139) (I 140) (I 142) (I 143) D (I 6 (2 : Int))) (0 : Int) 100 (cvw (I 10) (I 11) (I 12) (I 13) (I 14) (I 16) (I 17) (I 18) (I 111)) else -1) ∧ (if I 10 (0 : Int) = 1 then pleft (I 6 (2 : Int)) (cR (I 127) (I 128) (I 130) (I 131) (I 133) (I 134) (I 136) (I 137) (I 139) (I 140) (I 142) (I 143) D (I 6 (2 : Int))) (0 : Int) 100 (cvw (I 10) (I 11) (I 12) (I 13) (I 14) (I 16) (I 17) (I 18) (I 111)) else -1) ≤ 2147483647) ∧ (-2147483648 ≤ (if I 111 (0 : Int) = 1 then pleft (I 101 (21 : Int)) (pR (I 103) (I 105) (I 106) (I 101 (21 : Int))) (I 101 (23 : Int)) 100 (I 111) else -1) ∧ (if I 111 (0 : Int) = 1 then pleft (I 101 (21 : Int)) (pR (I 103) (I 105) (I 106) (I 101 (21 : Int))) (I 101 (23 : Int)) 100 (I 111) else -1) ≤ 2147483647)) ∧ (((if I 10 (0 : Int) = 1 then pleft (I 6 (2 : Int)) (cR (I 127) (I 128) (I 130) (I 131) (I 133) (I 134) (I 136) (I 137) (I 139) (I 140) (I 142) (I 143) D (I 6 (2 : Int))) (0 : Int) 100 (cvw (I 10) (I 11) (I 12) (I 13) (I 14) (I 16) (I 17) (I 18) (I 111)) else -1) = (if I 111 (0 : Int) = 1 then pleft (I 101 (21 : Int)) (pR (I 103) (I 105) (I 106) (I 101 (21 : Int))) (I 101 (23 : Int)) 100 (I 111) else -1) → xR d 264 es_264 10 [xt 2, xr (some 0), xr (some 101), xi (i + (6 : Int))] [] (xsc (xsc (xsc (xsc (xsc (xsc I 98 (xup (xup (I 98) (1 : Int) (if I 10 (0 : Int) = 1 then e2590 else I 98 (1 : Int))) (2 : Int) (if I 10 (0 : Int) = 1 then e2591 else I 98 (2 : Int)))) 99 (if I 10 (0 : Int) = 1 then e2592 else (I 99))) 100 (if I 10 (0 : Int) = 1 then e2593 else (I 100))) 101 (xup (I 101) (18 : Int) (if I 111 (0 : Int) = 1 then e2596 else I 101 (18 : Int)))) 111 (if I 111 (0 : Int) = 1 then (I 111) else (I 111))) 113 (if I 111 (0 : Int) = 1 then e2599 else (I 113))) (xsc (xsc (xsc (xsc L 21 (if I 10 (0 : Int) = 1 then e2594 else (L 21))) 22 (if I 10 (0 : Int) = 1 then e2595 else (L 22))) 109 (if I 111 (0 : Int) = 1 then e2597 else (L 109))) 110 (if I 111 (0 : Int) = 1 then e2598 else (L 110))) (gG D) c s post) ∧ (¬ (if I 10 (0 : Int) = 1 then pleft (I 6 (2 : Int)) (cR (I 127) (I 128) (I 130) (I 131) (I 133) (I 134) (I 136) (I 137) (I 139) (I 140) (I 142) (I 143) D (I 6 (2 : Int))) (0 : Int) 100 (cvw (I 10) (I 11) (I 12) (I 13) (I 14) (I 16) (I 17) (I 18) (I 111)) else -1) = (if I 111 (0 : Int) = 1 then pleft (I 101 (21 : Int)) (pR (I 103) (I 105) (I 106) (I 101 (21 : Int))) (I 101 (23 : Int)) 100 (I 111) else -1) → post (some (xi (0 : Int))) (xsc (xsc (xsc (xsc (xsc (xsc I 98 (xup (xup (I 98) (1 : Int) (if I 10 (0 : Int) = 1 then e2590 else I 98 (1 : Int))) (2 : Int) (if I 10 (0 : Int) = 1 then e2591 else I 98 (2 : Int)))) 99 (if I 10 (0 : Int) = 1 then e2592 else (I 99))) 100 (if I 10 (0 : Int) = 1 then e2593 else (I 100))) 101 (xup (I 101) (18 : Int) (if I 111 (0 : Int) = 1 then e2596 else I 101 (18 : Int)))) 111 (if I 111 (0 : Int) = 1 then (I 111) else (I 111))) 113 (if I 111 (0 : Int) = 1 then e2599 else (I 113))) (xsc (xsc (xsc (xsc L 21 (if I 10 (0 : Int) = 1 then e2594 else (L 21))) 22 (if I 10 (0 : Int) = 1 then e2595 else (L 22))) 109 (if I 111 (0 : Int) = 1 then e2597 else (L 109))) 110 (if I 111 (0 : Int) = 1 then e2598 else (L 110))) (gG D))))))))) : xR d 264 es_264 320 [xt 2, xr (some 0), xr (some 101), xi i] [] I L (gG D) c s post := sg_264_320  ((xR_cQ rfl rfl rfl (c_127 h.1) (by omega) (fun _ _ _ _ hx2602 => by obtain ⟨e2590, e2591, e2592, e2593, e2594, e2595, rfl, rfl, rfl, rfl⟩ := hx2602; exact (sg_264_322  (xR_cQ rfl rfl rfl (c_224 (h.2 e2590 e2591 e2592 e2593 e2594 e2595).1) (by omega) (fun _ _ _ _ hx2604 => by obtain ⟨e2596, e2597, e2598, e2599, rfl, rfl, rfl, rfl⟩ := hx2604; exact (sg_264_324  ⟨⟨((h.2 e2590 e2591 e2592 e2593 e2594 e2595).2 e2596 e2597 e2598 e2599).1.1, ((h.2 e2590 e2591 e2592 e2593 e2594 e2595).2 e2596 e2597 e2598 e2599).1.2⟩, ⟨fun q2600 => (xR_memc (((h.2 e2590 e2591 e2592 e2593 e2594 e2595).2 e2596 e2597 e2598 e2599).2.1 q2600) (funext fun i => (xpt rfl (fun h113_ => (xpt rfl (fun h111_ => (xpt rfl (fun h101_ => (xpt rfl (fun h100_ => (xpt rfl (fun h99_ => (xpt rfl (fun h98_ => (by simp only [xsc_ne _ _ h98_, xwr_ne _ _ _ h98_, xsc_ne _ _ h99_, xwr_ne _ _ _ h99_, xsc_ne _ _ h100_, xwr_ne _ _ _ h100_, xsc_ne _ _ h101_, xwr_ne _ _ _ h101_, xsc_ne _ _ h111_, xwr_ne _ _ _ h111_, xsc_ne _ _ h113_, xwr_ne _ _ _ h113_])))))))))))))) rfl), fun q2601 => ⟨(by decide), (xpost (((h.2 e2590 e2591 e2592 e2593 e2594 e2595).2 e2596 e2597 e2598 e2599).2.2 q2601) (funext fun i => (xpt rfl (fun h113_ => (xpt rfl (fun h111_ => (xpt rfl (fun h101_ => (xpt rfl (fun h100_ => (xpt rfl (fun h99_ => (xpt rfl (fun h98_ => (by simp only [xsc_ne _ _ h98_, xwr_ne _ _ _ h98_, xsc_ne _ _ h99_, xwr_ne _ _ _ h99_, xsc_ne _ _ h100_, xwr_ne _ _ _ h100_, xsc_ne _ _ h101_, xwr_ne _ _ _ h101_, xsc_ne _ _ h111_, xwr_ne _ _ _ h111_, xsc_ne _ _ h113_, xwr_ne _ _ _ h113_])))))))))))))) rfl)⟩⟩⟩)))))))
theorem ls_14 {I : XI} {L : XL} {D : GD} {d c s : Nat} {post : XQ} {i : Int} (hd : 8 ≤ d) (hi : 0 ≤ i ∧ i + 6 ≤ (D.2.2.2.2 : Int)) (hsc : ∀ j, xrg (D.2.2.2.1 j)) (hr : REL I D) (hc : ∀ I2 L2, REL I2 D → xR d 264 es_264 10 [xt 2, xr (some 0), xr (some 101), xi (i + 6)] [] I2 L2 (gG D) c s post) : xR d 264 es_264 320 [xt 2, xr (some 0), xr (some 101), xi i] [] I L (gG D) c s post := by
  have hrr := hr.rr
  obtain ⟨h1, h2, h3, h4, h5, h6, ⟨h70, h71, h72, h73⟩, h8⟩ := hr
  have hC := h2.2.1
  have hn := hC.n
  have hg := hC.g
  have htn := hC.turn
  have s1 := hsc (i + 1)
  have s2 := hsc (i + 2)
  have s3 := hsc (i + 3)
  have s4 := hsc (i + 4)
  have hrow := h2.1
  have e0 : I 111 0 = I 10 0 := congrFun hrow 0
  have e1 : I 111 1 = I 16 1 := congrFun hrow 1
  have e2 : I 111 2 = I 10 2 := congrFun hrow 2
  have e3 : I 111 3 = I 10 3 := congrFun hrow 3
  have e4 : I 111 4 = I 10 4 := congrFun hrow 4
  have e10 : I 111 10 = I 16 2 := congrFun hrow 10
  have hS : SO (I 111) := by rw [hrow]; exact hC.1
  have ef : I 101 21 = I 6 2 := h3.2.2.2.1.symm
  have ers : I 101 2 = (D.1 : Int) := h3.2.1
  have erc : I 0 4 = (D.1 : Int) := h3.1
  have hD := h3.2.2.1
  have hfr := h3.2.2.2.2.1
  have ht9 := h2.2.2.1
  have hf0 := hC.f
  have hRf := h3.2.2.2.2.2.1 (I 6 2) hfr.1 hfr.2
  have hRO : RO (I 103) (I 105) (I 106) (I 101 21) := by rw [ef]; exact h3.2.2.2.2.2.2.1 (I 6 2) hfr.1 hfr.2
  have hRO2 : RO (I 103) (I 105) (I 106) (I 6 2) := h3.2.2.2.2.2.2.1 (I 6 2) hfr.1 hfr.2
  have ekk : I 101 23 = 0 := h5.2.2
  have ex : I 101 22 = I 6 3 := h4.1.symm
  have hx := h4.2
  have etp : I 101 1 = I 1 6 := h1.1.symm
  have htp := h1.2.1
  have eun : I 101 25 = I 88 0 := h6.1.symm
  have hun := h6.2.1
  have hnx := h6.2.2.1
  refine lw_14 (by omega) ?_
  simp only [← hrow, e0, e3, e4, e10, ef, ekk, ite_self]
  rw [pleft_c (show I 6 2 < 0 ∨ (cR (I 127) (I 128) (I 130) (I 131) (I 133) (I 134) (I 136) (I 137) (I 139) (I 140) (I 142) (I 143) D (I 6 2)) = pR (I 103) (I 105) (I 106) (I 6 2) by rw [← ef]; rw [← ef] at hrr; exact hrr)]
  have hq := pleft_rg (f := I 6 2) (R := pR (I 103) (I 105) (I 106) (I 6 2)) (kk := 0) 100 (I 111) hS (by omega)
  repeat' first | (with_reducible intro _) | (with_reducible refine And.intro ?_ ?_)
  all_goals first | omega | assumption | exact hRf | (split <;> omega) | (exact absurd rfl (by assumption)) | exact hc _ _ ⟨h1, h2, h3, h4, h5, h6, ⟨h70, h71, h72, h73⟩, h8⟩
