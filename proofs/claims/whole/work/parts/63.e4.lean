theorem pfr_rg {b1 : Int → Int} {p v : Int} (h : ∀ j, 0 ≤ j → j < p → -128 ≤ b1 j ∧ b1 j ≤ 127) : ∀ k : Nat, ∀ j, 0 ≤ j → j < p + (k : Int) → -128 ≤ pfr b1 p v k j ∧ pfr b1 p v k j ≤ 127 := by
  intro k
  induction k with
  | zero => intro j j0 j1; exact h j j0 (by omega)
  | succ k ih =>
    intro j j0 j1
    unfold pfr
    by_cases q : j = p + (k : Int)
    · subst q
      rw [xup_same]
      exact xi2b_rg _
    · rw [xup_ne _ _ q]
      exact ih j j0 (by omega)
theorem R1_feed {n1 n2 : Int} {b1 b2 : Int → Int} (h : R1 n1 n2 b1 b2) (hn : n1 + 4 ≤ 400) (v : Int) : R1 (n1 + 4) (n2 + 4) (pfr b1 n1 v 4) (pfr b2 n2 v 4) := by
  obtain ⟨e, h1, e2, h2⟩ := h
  subst e e2
  exact ⟨rfl, by omega, rfl, pfr_rg h2 4⟩
set_option maxRecDepth 8000 in
theorem sg_264_22 {d : Nat} {I : XI} {L : XL} {D : GD} {post : XQ} {c s : Nat} {u3 : Int} (h : ((0 ≤ (u3 + (1 : Int)) ∧ (u3 + (1 : Int)) < (D.2.2.2.2 : Int)) ∧ ((0 ≤ (u3 + (2 : Int)) ∧ (u3 + (2 : Int)) < (D.2.2.2.2 : Int)) ∧ ((0 ≤ (u3 + (3 : Int)) ∧ (u3 + (3 : Int)) < (D.2.2.2.2 : Int)) ∧ ((0 ≤ (u3 + (4 : Int)) ∧ (u3 + (4 : Int)) < (D.2.2.2.2 : Int)) ∧ ((0 ≤ (u3 + (5 : Int)) ∧ (u3 + (5 : Int)) < (D.2.2.2.2 : Int)) ∧ xR d 264 es_264 48 [xt 2, xr (some 0), xr (some 101), xi u3] [xi (D.2.2.2.1 (u3 + (5 : Int))), xi (D.2.2.2.1 (u3 + (4 : Int))), xi (D.2.2.2.1 (u3 + (3 : Int))), xi (D.2.2.2.1 (u3 + (2 : Int))), xi (D.2.2.2.1 (u3 + (1 : Int))), xr (some 0)] I L (gG D) c s post)))))) : xR d 264 es_264 22 [xt 2, xr (some 0), xr (some 101), xi u3] [] I L (gG D) c s post := xW_R (fun k => Nat.beq k 2 || Nat.beq k 6 || Nat.beq k 10 || Nat.beq k 48 || Nat.beq k 75 || Nat.beq k 85 || Nat.beq k 92 || Nat.beq k 97 || Nat.beq k 99 || Nat.beq k 104 || Nat.beq k 106 || Nat.beq k 116 || Nat.beq k 123 || Nat.beq k 138 || Nat.beq k 150 || Nat.beq k 165 || Nat.beq k 177 || Nat.beq k 182 || Nat.beq k 184 || Nat.beq k 199 || Nat.beq k 211 || Nat.beq k 221 || Nat.beq k 228 || Nat.beq k 243 || Nat.beq k 255 || Nat.beq k 265 || Nat.beq k 272 || Nat.beq k 277 || Nat.beq k 279 || Nat.beq k 299 || Nat.beq k 316 || Nat.beq k 321 || Nat.beq k 323 || Nat.beq k 328 || Nat.beq k 330 || Nat.beq k 345 || Nat.beq k 357 || Nat.beq k 367 || Nat.beq k 374 || Nat.beq k 384 || Nat.beq k 391 || Nat.beq k 401 || Nat.beq k 408 || Nat.beq k 428 || Nat.beq k 445 || Nat.beq k 460 || Nat.beq k 472 || Nat.beq k 487 || Nat.beq k 499 || Nat.beq k 524 || Nat.beq k 546 || Nat.beq k 561 || Nat.beq k 573 || Nat.beq k 593 || Nat.beq k 610 || Nat.beq k 620 || Nat.beq k 627 || Nat.beq k 642 || Nat.beq k 654 || Nat.beq k 664 || Nat.beq k 671 || Nat.beq k 696 || Nat.beq k 718 || Nat.beq k 728 || Nat.beq k 735 || Nat.beq k 745 || Nat.beq k 752 || Nat.beq k 762 || Nat.beq k 769) 26 _ _ _ _ _ _ _ _ _ _ _ _ h
set_option maxRecDepth 8000 in
theorem sg_264_49 {d : Nat} {I : XI} {L : XL} {D : GD} {post : XQ} {c s : Nat} {u3 : Int} {w0 : Int} (h : ((0 ≤ (u3 + (1 : Int)) ∧ (u3 + (1 : Int)) < (D.2.2.2.2 : Int)) ∧ ((0 ≤ (u3 + (2 : Int)) ∧ (u3 + (2 : Int)) < (D.2.2.2.2 : Int)) ∧ ((0 ≤ (u3 + (3 : Int)) ∧ (u3 + (3 : Int)) < (D.2.2.2.2 : Int)) ∧ ((0 ≤ (u3 + (4 : Int)) ∧ (u3 + (4 : Int)) < (D.2.2.2.2 : Int)) ∧ ((0 ≤ (u3 + (5 : Int)) ∧ (u3 + (5 : Int)) < (D.2.2.2.2 : Int)) ∧ xR d 264 es_264 75 [xt 2, xr (some 0), xr (some 101), xi u3] [xi (D.2.2.2.1 (u3 + (5 : Int))), xi (D.2.2.2.1 (u3 + (4 : Int))), xi (D.2.2.2.1 (u3 + (3 : Int))), xi (D.2.2.2.1 (u3 + (2 : Int))), xi (D.2.2.2.1 (u3 + (1 : Int))), xr (some 101), xi w0] I L (gG D) c s post)))))) : xR d 264 es_264 49 [xt 2, xr (some 0), xr (some 101), xi u3] [xi w0] I L (gG D) c s post := xW_R (fun k => Nat.beq k 2 || Nat.beq k 6 || Nat.beq k 10 || Nat.beq k 48 || Nat.beq k 75 || Nat.beq k 85 || Nat.beq k 92 || Nat.beq k 97 || Nat.beq k 99 || Nat.beq k 104 || Nat.beq k 106 || Nat.beq k 116 || Nat.beq k 123 || Nat.beq k 138 || Nat.beq k 150 || Nat.beq k 165 || Nat.beq k 177 || Nat.beq k 182 || Nat.beq k 184 || Nat.beq k 199 || Nat.beq k 211 || Nat.beq k 221 || Nat.beq k 228 || Nat.beq k 243 || Nat.beq k 255 || Nat.beq k 265 || Nat.beq k 272 || Nat.beq k 277 || Nat.beq k 279 || Nat.beq k 299 || Nat.beq k 316 || Nat.beq k 321 || Nat.beq k 323 || Nat.beq k 328 || Nat.beq k 330 || Nat.beq k 345 || Nat.beq k 357 || Nat.beq k 367 || Nat.beq k 374 || Nat.beq k 384 || Nat.beq k 391 || Nat.beq k 401 || Nat.beq k 408 || Nat.beq k 428 || Nat.beq k 445 || Nat.beq k 460 || Nat.beq k 472 || Nat.beq k 487 || Nat.beq k 499 || Nat.beq k 524 || Nat.beq k 546 || Nat.beq k 561 || Nat.beq k 573 || Nat.beq k 593 || Nat.beq k 610 || Nat.beq k 620 || Nat.beq k 627 || Nat.beq k 642 || Nat.beq k 654 || Nat.beq k 664 || Nat.beq k 671 || Nat.beq k 696 || Nat.beq k 718 || Nat.beq k 728 || Nat.beq k 735 || Nat.beq k 745 || Nat.beq k 752 || Nat.beq k 762 || Nat.beq k 769) 26 _ _ _ _ _ _ _ _ _ _ _ _ h
set_option maxRecDepth 8000 in
theorem sg_264_76 {d : Nat} {I : XI} {L : XL} {D : GD} {post : XQ} {c s : Nat} {u3 : Int} {w0 : Int} {w1 : Int} (h : (((-2147483648 ≤ w0 ∧ w0 ≤ 2147483647) ∧ (-2147483648 ≤ w1 ∧ w1 ≤ 2147483647)) ∧ ((w0 = w1 → xR d 264 es_264 10 [xt 2, xr (some 0), xr (some 101), xi (u3 + (6 : Int))] [] I L (gG D) c s post) ∧ (¬ w0 = w1 → (((0 : Int) = 0 ∨ (0 : Int) = 1) ∧ post (some (xi (0 : Int))) I L (gG D)))))) : xR d 264 es_264 76 [xt 2, xr (some 0), xr (some 101), xi u3] [xi w1, xi w0] I L (gG D) c s post := xW_R (fun k => Nat.beq k 2 || Nat.beq k 6 || Nat.beq k 10 || Nat.beq k 48 || Nat.beq k 75 || Nat.beq k 85 || Nat.beq k 92 || Nat.beq k 97 || Nat.beq k 99 || Nat.beq k 104 || Nat.beq k 106 || Nat.beq k 116 || Nat.beq k 123 || Nat.beq k 138 || Nat.beq k 150 || Nat.beq k 165 || Nat.beq k 177 || Nat.beq k 182 || Nat.beq k 184 || Nat.beq k 199 || Nat.beq k 211 || Nat.beq k 221 || Nat.beq k 228 || Nat.beq k 243 || Nat.beq k 255 || Nat.beq k 265 || Nat.beq k 272 || Nat.beq k 277 || Nat.beq k 279 || Nat.beq k 299 || Nat.beq k 316 || Nat.beq k 321 || Nat.beq k 323 || Nat.beq k 328 || Nat.beq k 330 || Nat.beq k 345 || Nat.beq k 357 || Nat.beq k 367 || Nat.beq k 374 || Nat.beq k 384 || Nat.beq k 391 || Nat.beq k 401 || Nat.beq k 408 || Nat.beq k 428 || Nat.beq k 445 || Nat.beq k 460 || Nat.beq k 472 || Nat.beq k 487 || Nat.beq k 499 || Nat.beq k 524 || Nat.beq k 546 || Nat.beq k 561 || Nat.beq k 573 || Nat.beq k 593 || Nat.beq k 610 || Nat.beq k 620 || Nat.beq k 627 || Nat.beq k 642 || Nat.beq k 654 || Nat.beq k 664 || Nat.beq k 671 || Nat.beq k 696 || Nat.beq k 718 || Nat.beq k 728 || Nat.beq k 735 || Nat.beq k 745 || Nat.beq k 752 || Nat.beq k 762 || Nat.beq k 769) 3 _ _ _ _ _ _ _ _ _ _ _ _ h
set_option maxRecDepth 8000 in
theorem lw_0 {d : Nat} {I : XI} {L : XL} {D : GD} {post : XQ}  {c s : Nat} {i : Int} (hd : 2 ≤ d) (h : (((0 ≤ (i + (1 : Int)) ∧ (i + (1 : Int)) < (D.2.2.2.2 : Int))) ∧ (((0 ≤ (i + (2 : Int)) ∧ (i + (2 : Int)) < (D.2.2.2.2 : Int))) ∧ (((0 ≤ (i + (3 : Int)) ∧ (i + (3 : Int)) < (D.2.2.2.2 : Int))) ∧ (((0 ≤ (i + (4 : Int)) ∧ (i + (4 : Int)) < (D.2.2.2.2 : Int))) ∧ (((0 ≤ (i + (5 : Int)) ∧ (i + (5 : Int)) < (D.2.2.2.2 : Int))) ∧ ((0 ≤ I 1 (6 : Int) ∧ I 1 (6 : Int) ≤ 400) ∧ ((0 ≤ I 101 (1 : Int) ∧ I 101 (1 : Int) ≤ 400) ∧ (((-2147483648 ≤ (if I 1 (6 : Int) + 20 ≤ 400 then I 1 (6 : Int) + 4 + 4 + 4 + 4 + 4 else -1) ∧ (if I 1 (6 : Int) + 20 ≤ 400 then I 1 (6 : Int) + 4 + 4 + 4 + 4 + 4 else -1) ≤ 2147483647) ∧ (-2147483648 ≤ (if I 101 (1 : Int) + 20 ≤ 400 then I 101 (1 : Int) + 4 + 4 + 4 + 4 + 4 else -1) ∧ (if I 101 (1 : Int) + 20 ≤ 400 then I 101 (1 : Int) + 4 + 4 + 4 + 4 + 4 else -1) ≤ 2147483647)) ∧ (((if I 1 (6 : Int) + 20 ≤ 400 then I 1 (6 : Int) + 4 + 4 + 4 + 4 + 4 else -1) = (if I 101 (1 : Int) + 20 ≤ 400 then I 101 (1 : Int) + 4 + 4 + 4 + 4 + 4 else -1) → xR d 264 es_264 10 [xt 2, xr (some 0), xr (some 101), xi (i + (6 : Int))] [] (xsc (xsc (xsc (xsc I 1 (xup (I 1) (6 : Int) (if I 1 (6 : Int) + 20 ≤ 400 then I 1 (6 : Int) + 4 + 4 + 4 + 4 + 4 else I 1 (6 : Int)))) 2 (if I 1 (6 : Int) + 20 ≤ 400 then (pfr (pfr (pfr (pfr (pfr (I 2) (I 1 (6 : Int)) (D.2.2.2.1 (i + (1 : Int))) 4) (I 1 (6 : Int) + 4) (D.2.2.2.1 (i + (2 : Int))) 4) (I 1 (6 : Int) + 4 + 4) (D.2.2.2.1 (i + (3 : Int))) 4) (I 1 (6 : Int) + 4 + 4 + 4) (D.2.2.2.1 (i + (4 : Int))) 4) (I 1 (6 : Int) + 4 + 4 + 4 + 4) (D.2.2.2.1 (i + (5 : Int))) 4) else (I 2))) 101 (xup (I 101) (1 : Int) (if I 101 (1 : Int) + 20 ≤ 400 then I 101 (1 : Int) + 4 + 4 + 4 + 4 + 4 else I 101 (1 : Int)))) 102 (if I 101 (1 : Int) + 20 ≤ 400 then (pfr (pfr (pfr (pfr (pfr (I 102) (I 101 (1 : Int)) (D.2.2.2.1 (i + (1 : Int))) 4) (I 101 (1 : Int) + 4) (D.2.2.2.1 (i + (2 : Int))) 4) (I 101 (1 : Int) + 4 + 4) (D.2.2.2.1 (i + (3 : Int))) 4) (I 101 (1 : Int) + 4 + 4 + 4) (D.2.2.2.1 (i + (4 : Int))) 4) (I 101 (1 : Int) + 4 + 4 + 4 + 4) (D.2.2.2.1 (i + (5 : Int))) 4) else (I 102))) L (gG D) c s post) ∧ (¬ (if I 1 (6 : Int) + 20 ≤ 400 then I 1 (6 : Int) + 4 + 4 + 4 + 4 + 4 else -1) = (if I 101 (1 : Int) + 20 ≤ 400 then I 101 (1 : Int) + 4 + 4 + 4 + 4 + 4 else -1) → post (some (xi (0 : Int))) (xsc (xsc (xsc (xsc I 1 (xup (I 1) (6 : Int) (if I 1 (6 : Int) + 20 ≤ 400 then I 1 (6 : Int) + 4 + 4 + 4 + 4 + 4 else I 1 (6 : Int)))) 2 (if I 1 (6 : Int) + 20 ≤ 400 then (pfr (pfr (pfr (pfr (pfr (I 2) (I 1 (6 : Int)) (D.2.2.2.1 (i + (1 : Int))) 4) (I 1 (6 : Int) + 4) (D.2.2.2.1 (i + (2 : Int))) 4) (I 1 (6 : Int) + 4 + 4) (D.2.2.2.1 (i + (3 : Int))) 4) (I 1 (6 : Int) + 4 + 4 + 4) (D.2.2.2.1 (i + (4 : Int))) 4) (I 1 (6 : Int) + 4 + 4 + 4 + 4) (D.2.2.2.1 (i + (5 : Int))) 4) else (I 2))) 101 (xup (I 101) (1 : Int) (if I 101 (1 : Int) + 20 ≤ 400 then I 101 (1 : Int) + 4 + 4 + 4 + 4 + 4 else I 101 (1 : Int)))) 102 (if I 101 (1 : Int) + 20 ≤ 400 then (pfr (pfr (pfr (pfr (pfr (I 102) (I 101 (1 : Int)) (D.2.2.2.1 (i + (1 : Int))) 4) (I 101 (1 : Int) + 4) (D.2.2.2.1 (i + (2 : Int))) 4) (I 101 (1 : Int) + 4 + 4) (D.2.2.2.1 (i + (3 : Int))) 4) (I 101 (1 : Int) + 4 + 4 + 4) (D.2.2.2.1 (i + (4 : Int))) 4) (I 101 (1 : Int) + 4 + 4 + 4 + 4) (D.2.2.2.1 (i + (5 : Int))) 4) else (I 102))) L (gG D)))))))))))) : xR d 264 es_264 22 [xt 2, xr (some 0), xr (some 101), xi i] [] I L (gG D) c s post := sg_264_22  (⟨h.1, ⟨h.2.1, ⟨h.2.2.1, ⟨h.2.2.2.1, ⟨h.2.2.2.2.1, (xR_cF rfl rfl rfl (c_113 h.2.2.2.2.2.1) (by omega) (sg_264_49  ⟨h.1, ⟨h.2.1, ⟨h.2.2.1, ⟨h.2.2.2.1, ⟨h.2.2.2.2.1, (xR_cF rfl rfl rfl (c_151 h.2.2.2.2.2.2.1) (by omega) (sg_264_76  ⟨⟨h.2.2.2.2.2.2.2.1.1, h.2.2.2.2.2.2.2.1.2⟩, ⟨fun q2712 => (h.2.2.2.2.2.2.2.2.1 q2712), fun q2713 => ⟨(by decide), (h.2.2.2.2.2.2.2.2.2 q2713)⟩⟩⟩))⟩⟩⟩⟩⟩))⟩⟩⟩⟩⟩)
theorem ls_0 {I : XI} {L : XL} {D : GD} {d c s : Nat} {post : XQ} {i : Int} (hd : 9 ≤ d) (hi : 0 ≤ i ∧ i + 6 ≤ (D.2.2.2.2 : Int)) (hsc : ∀ j, xrg (D.2.2.2.1 j)) (hr : REL I D) (hc : ∀ I2 L2, REL I2 D → xR d 264 es_264 10 [xt 2, xr (some 0), xr (some 101), xi (i + 6)] [] I2 L2 (gG D) c s post) : xR d 264 es_264 22 [xt 2, xr (some 0), xr (some 101), xi i] [] I L (gG D) c s post := by
  have hrr := hr.rr
  obtain ⟨h1, h2, h3, h4, h5, h6, ⟨h70, h71, h72, h73⟩, h8⟩ := hr
  have hC := h2.2.1
  have hn := hC.n
  have hg := hC.g
  have htn := hC.turn
  have s1 := hsc (i + 1)
  have s2 := hsc (i + 2)
  have s3 := hsc (i + 3)
  have s4 := hsc (i + 4)
  have hrow := h2.1
  have e0 : I 111 0 = I 10 0 := congrFun hrow 0
  have e1 : I 111 1 = I 16 1 := congrFun hrow 1
  have e2 : I 111 2 = I 10 2 := congrFun hrow 2
  have e3 : I 111 3 = I 10 3 := congrFun hrow 3
  have e4 : I 111 4 = I 10 4 := congrFun hrow 4
  have e10 : I 111 10 = I 16 2 := congrFun hrow 10
  have hS : SO (I 111) := by rw [hrow]; exact hC.1
  have ef : I 101 21 = I 6 2 := h3.2.2.2.1.symm
  have ers : I 101 2 = (D.1 : Int) := h3.2.1
  have erc : I 0 4 = (D.1 : Int) := h3.1
  have hD := h3.2.2.1
  have hfr := h3.2.2.2.2.1
  have ht9 := h2.2.2.1
  have hf0 := hC.f
  have hRf := h3.2.2.2.2.2.1 (I 6 2) hfr.1 hfr.2
  have hRO : RO (I 103) (I 105) (I 106) (I 101 21) := by rw [ef]; exact h3.2.2.2.2.2.2.1 (I 6 2) hfr.1 hfr.2
  have hRO2 : RO (I 103) (I 105) (I 106) (I 6 2) := h3.2.2.2.2.2.2.1 (I 6 2) hfr.1 hfr.2
  have ekk : I 101 23 = 0 := h5.2.2
  have ex : I 101 22 = I 6 3 := h4.1.symm
  have hx := h4.2
  have etp : I 101 1 = I 1 6 := h1.1.symm
  have htp := h1.2.1
  have eun : I 101 25 = I 88 0 := h6.1.symm
  have hun := h6.2.1
  have hnx := h6.2.2.1
  have s5 := hsc (i + 5)
  refine lw_0 (by omega) ?_
  simp only [etp]
  by_cases hq : I 1 6 + 20 ≤ 400
  · simp only [if_pos hq]
    repeat' first | (with_reducible intro _) | (with_reducible refine And.intro ?_ ?_)
    all_goals first | omega | (exact absurd rfl (by assumption)) | (exact absurd trivial (by assumption)) | skip
    refine hc _ _ ⟨?_, h2, h3, h4, h5, h6, ⟨h70, h71, h72, h73⟩, h8⟩
    have g0 : R1 (I 1 6) (I 1 6) (I 2) (I 102) := ⟨rfl, h1.2⟩
    exact R1_feed (R1_feed (R1_feed (R1_feed (R1_feed g0 (by omega) _) (by omega) _) (by omega) _) (by omega) _) (by omega) _
  · simp only [if_neg hq]
    repeat' first | (with_reducible intro _) | (with_reducible refine And.intro ?_ ?_)
    all_goals first | omega | (exact absurd rfl (by assumption)) | (exact absurd trivial (by assumption)) | skip
    refine hc _ _ ⟨?_, h2, h3, h4, h5, h6, ⟨h70, h71, h72, h73⟩, h8⟩
    exact ⟨rfl, h1.2⟩
theorem qcount_rg {a : Int → Int} (h : SO a) {rs f u x tp w : Int} (h101 : 0 ≤ a 101 ∧ a 101 ≤ 10) (hrs : 0 ≤ rs ∧ rs ≤ 6) (hf : -1 ≤ f ∧ f ≤ 6) (hu : 0 ≤ u ∧ u ≤ 20) (hx : 0 ≤ x ∧ x < 2147483648) (ht : 0 ≤ tp ∧ tp ≤ 400) : -2 ≤ qcount a rs f u x tp w ∧ qcount a rs f u x tp w < 2147483648 := by
  have h1 := h.first
  have h2 := h.stir
  have h3 := h.n
  have h4 := h.g
  have h5 := h.turn
  have h6 := pwhose_rg h
  have h7 := pslices_rg h (-1)
  have h8 := pcontent_rg h
  unfold qcount
  (repeat' split) <;> omega
set_option maxRecDepth 8000 in
theorem sg_264_722 {d : Nat} {I : XI} {L : XL} {D : GD} {post : XQ} {c s : Nat} {u3 : Int} (h : ((0 ≤ (u3 + (1 : Int)) ∧ (u3 + (1 : Int)) < (D.2.2.2.2 : Int)) ∧ xR d 264 es_264 728 [xt 2, xr (some 0), xr (some 101), xi u3] [xi (D.2.2.2.1 (u3 + (1 : Int))), xr (some 0)] I L (gG D) c s post)) : xR d 264 es_264 722 [xt 2, xr (some 0), xr (some 101), xi u3] [] I L (gG D) c s post := xW_R (fun k => Nat.beq k 2 || Nat.beq k 6 || Nat.beq k 10 || Nat.beq k 48 || Nat.beq k 75 || Nat.beq k 85 || Nat.beq k 92 || Nat.beq k 97 || Nat.beq k 99 || Nat.beq k 104 || Nat.beq k 106 || Nat.beq k 116 || Nat.beq k 123 || Nat.beq k 138 || Nat.beq k 150 || Nat.beq k 165 || Nat.beq k 177 || Nat.beq k 182 || Nat.beq k 184 || Nat.beq k 199 || Nat.beq k 211 || Nat.beq k 221 || Nat.beq k 228 || Nat.beq k 243 || Nat.beq k 255 || Nat.beq k 265 || Nat.beq k 272 || Nat.beq k 277 || Nat.beq k 279 || Nat.beq k 299 || Nat.beq k 316 || Nat.beq k 321 || Nat.beq k 323 || Nat.beq k 328 || Nat.beq k 330 || Nat.beq k 345 || Nat.beq k 357 || Nat.beq k 367 || Nat.beq k 374 || Nat.beq k 384 || Nat.beq k 391 || Nat.beq k 401 || Nat.beq k 408 || Nat.beq k 428 || Nat.beq k 445 || Nat.beq k 460 || Nat.beq k 472 || Nat.beq k 487 || Nat.beq k 499 || Nat.beq k 524 || Nat.beq k 546 || Nat.beq k 561 || Nat.beq k 573 || Nat.beq k 593 || Nat.beq k 610 || Nat.beq k 620 || Nat.beq k 627 || Nat.beq k 642 || Nat.beq k 654 || Nat.beq k 664 || Nat.beq k 671 || Nat.beq k 696 || Nat.beq k 718 || Nat.beq k 728 || Nat.beq k 735 || Nat.beq k 745 || Nat.beq k 752 || Nat.beq k 762 || Nat.beq k 769) 6 _ _ _ _ _ _ _ _ _ _ _ _ h
set_option maxRecDepth 8000 in
theorem sg_264_729 {d : Nat} {I : XI} {L : XL} {D : GD} {post : XQ} {c s : Nat} {u3 : Int} {w0 : Int} (h : ((0 ≤ (u3 + (1 : Int)) ∧ (u3 + (1 : Int)) < (D.2.2.2.2 : Int)) ∧ xR d 264 es_264 735 [xt 2, xr (some 0), xr (some 101), xi u3] [xi (D.2.2.2.1 (u3 + (1 : Int))), xr (some 101), xi w0] I L (gG D) c s post)) : xR d 264 es_264 729 [xt 2, xr (some 0), xr (some 101), xi u3] [xi w0] I L (gG D) c s post := xW_R (fun k => Nat.beq k 2 || Nat.beq k 6 || Nat.beq k 10 || Nat.beq k 48 || Nat.beq k 75 || Nat.beq k 85 || Nat.beq k 92 || Nat.beq k 97 || Nat.beq k 99 || Nat.beq k 104 || Nat.beq k 106 || Nat.beq k 116 || Nat.beq k 123 || Nat.beq k 138 || Nat.beq k 150 || Nat.beq k 165 || Nat.beq k 177 || Nat.beq k 182 || Nat.beq k 184 || Nat.beq k 199 || Nat.beq k 211 || Nat.beq k 221 || Nat.beq k 228 || Nat.beq k 243 || Nat.beq k 255 || Nat.beq k 265 || Nat.beq k 272 || Nat.beq k 277 || Nat.beq k 279 || Nat.beq k 299 || Nat.beq k 316 || Nat.beq k 321 || Nat.beq k 323 || Nat.beq k 328 || Nat.beq k 330 || Nat.beq k 345 || Nat.beq k 357 || Nat.beq k 367 || Nat.beq k 374 || Nat.beq k 384 || Nat.beq k 391 || Nat.beq k 401 || Nat.beq k 408 || Nat.beq k 428 || Nat.beq k 445 || Nat.beq k 460 || Nat.beq k 472 || Nat.beq k 487 || Nat.beq k 499 || Nat.beq k 524 || Nat.beq k 546 || Nat.beq k 561 || Nat.beq k 573 || Nat.beq k 593 || Nat.beq k 610 || Nat.beq k 620 || Nat.beq k 627 || Nat.beq k 642 || Nat.beq k 654 || Nat.beq k 664 || Nat.beq k 671 || Nat.beq k 696 || Nat.beq k 718 || Nat.beq k 728 || Nat.beq k 735 || Nat.beq k 745 || Nat.beq k 752 || Nat.beq k 762 || Nat.beq k 769) 6 _ _ _ _ _ _ _ _ _ _ _ _ h
set_option maxRecDepth 8000 in
theorem sg_264_736 {d : Nat} {I : XI} {L : XL} {D : GD} {post : XQ} {c s : Nat} {u3 : Int} {w0 : Int} {w1 : Int} (h : (((-2147483648 ≤ w0 ∧ w0 ≤ 2147483647) ∧ (-2147483648 ≤ w1 ∧ w1 ≤ 2147483647)) ∧ ((w0 = w1 → xR d 264 es_264 10 [xt 2, xr (some 0), xr (some 101), xi (u3 + (6 : Int))] [] I L (gG D) c s post) ∧ (¬ w0 = w1 → (((0 : Int) = 0 ∨ (0 : Int) = 1) ∧ post (some (xi (0 : Int))) I L (gG D)))))) : xR d 264 es_264 736 [xt 2, xr (some 0), xr (some 101), xi u3] [xi w1, xi w0] I L (gG D) c s post := xW_R (fun k => Nat.beq k 2 || Nat.beq k 6 || Nat.beq k 10 || Nat.beq k 48 || Nat.beq k 75 || Nat.beq k 85 || Nat.beq k 92 || Nat.beq k 97 || Nat.beq k 99 || Nat.beq k 104 || Nat.beq k 106 || Nat.beq k 116 || Nat.beq k 123 || Nat.beq k 138 || Nat.beq k 150 || Nat.beq k 165 || Nat.beq k 177 || Nat.beq k 182 || Nat.beq k 184 || Nat.beq k 199 || Nat.beq k 211 || Nat.beq k 221 || Nat.beq k 228 || Nat.beq k 243 || Nat.beq k 255 || Nat.beq k 265 || Nat.beq k 272 || Nat.beq k 277 || Nat.beq k 279 || Nat.beq k 299 || Nat.beq k 316 || Nat.beq k 321 || Nat.beq k 323 || Nat.beq k 328 || Nat.beq k 330 || Nat.beq k 345 || Nat.beq k 357 || Nat.beq k 367 || Nat.beq k 374 || Nat.beq k 384 || Nat.beq k 391 || Nat.beq k 401 || Nat.beq k 408 || Nat.beq k 428 || Nat.beq k 445 || Nat.beq k 460 || Nat.beq k 472 || Nat.beq k 487 || Nat.beq k 499 || Nat.beq k 524 || Nat.beq k 546 || Nat.beq k 561 || Nat.beq k 573 || Nat.beq k 593 || Nat.beq k 610 || Nat.beq k 620 || Nat.beq k 627 || Nat.beq k 642 || Nat.beq k 654 || Nat.beq k 664 || Nat.beq k 671 || Nat.beq k 696 || Nat.beq k 718 || Nat.beq k 728 || Nat.beq k 735 || Nat.beq k 745 || Nat.beq k 752 || Nat.beq k 762 || Nat.beq k 769) 3 _ _ _ _ _ _ _ _ _ _ _ _ h
set_option maxRecDepth 8000 in
theorem lw_30 {d : Nat} {I : XI} {L : XL} {D : GD} {post : XQ}  {c s : Nat} {i : Int} (hd : 7 ≤ d) (h : (((0 ≤ (i + (1 : Int)) ∧ (i + (1 : Int)) < (D.2.2.2.2 : Int))) ∧ ((CO (I 10) (I 11) (I 12) (I 13) (I 14) (I 15) (I 16) (I 17) (I 18) (I 111) ∧ (-2147483648 ≤ (D.2.2.2.1 (i + (1 : Int))) ∧ (D.2.2.2.1 (i + (1 : Int))) ≤ 2147483647)) ∧ ((SO (I 111) ∧ (-2147483648 ≤ (D.2.2.2.1 (i + (1 : Int))) ∧ (D.2.2.2.1 (i + (1 : Int))) ≤ 2147483647)) ∧ (((-2147483648 ≤ (if (D.2.2.2.1 (i + (1 : Int))) = 0 then I 10 (1 : Int) else if (D.2.2.2.1 (i + (1 : Int))) = 10 then I 6 (4 : Int) else qcount (cvw (I 10) (I 11) (I 12) (I 13) (I 14) (I 16) (I 17) (I 18) (I 111)) (I 0 (4 : Int)) (I 6 (2 : Int)) (I 88 (0 : Int)) (I 6 (3 : Int)) (I 1 (6 : Int)) (D.2.2.2.1 (i + (1 : Int)))) ∧ (if (D.2.2.2.1 (i + (1 : Int))) = 0 then I 10 (1 : Int) else if (D.2.2.2.1 (i + (1 : Int))) = 10 then I 6 (4 : Int) else qcount (cvw (I 10) (I 11) (I 12) (I 13) (I 14) (I 16) (I 17) (I 18) (I 111)) (I 0 (4 : Int)) (I 6 (2 : Int)) (I 88 (0 : Int)) (I 6 (3 : Int)) (I 1 (6 : Int)) (D.2.2.2.1 (i + (1 : Int)))) ≤ 2147483647) ∧ (-2147483648 ≤ (qcount (I 111) (I 101 (2 : Int)) (I 101 (21 : Int)) (I 101 (25 : Int)) (I 101 (22 : Int)) (I 101 (1 : Int)) (D.2.2.2.1 (i + (1 : Int)))) ∧ (qcount (I 111) (I 101 (2 : Int)) (I 101 (21 : Int)) (I 101 (25 : Int)) (I 101 (22 : Int)) (I 101 (1 : Int)) (D.2.2.2.1 (i + (1 : Int)))) ≤ 2147483647)) ∧ (((if (D.2.2.2.1 (i + (1 : Int))) = 0 then I 10 (1 : Int) else if (D.2.2.2.1 (i + (1 : Int))) = 10 then I 6 (4 : Int) else qcount (cvw (I 10) (I 11) (I 12) (I 13) (I 14) (I 16) (I 17) (I 18) (I 111)) (I 0 (4 : Int)) (I 6 (2 : Int)) (I 88 (0 : Int)) (I 6 (3 : Int)) (I 1 (6 : Int)) (D.2.2.2.1 (i + (1 : Int)))) = (qcount (I 111) (I 101 (2 : Int)) (I 101 (21 : Int)) (I 101 (25 : Int)) (I 101 (22 : Int)) (I 101 (1 : Int)) (D.2.2.2.1 (i + (1 : Int)))) → xR d 264 es_264 10 [xt 2, xr (some 0), xr (some 101), xi (i + (6 : Int))] [] I L (gG D) c s post) ∧ (¬ (if (D.2.2.2.1 (i + (1 : Int))) = 0 then I 10 (1 : Int) else if (D.2.2.2.1 (i + (1 : Int))) = 10 then I 6 (4 : Int) else qcount (cvw (I 10) (I 11) (I 12) (I 13) (I 14) (I 16) (I 17) (I 18) (I 111)) (I 0 (4 : Int)) (I 6 (2 : Int)) (I 88 (0 : Int)) (I 6 (3 : Int)) (I 1 (6 : Int)) (D.2.2.2.1 (i + (1 : Int)))) = (qcount (I 111) (I 101 (2 : Int)) (I 101 (21 : Int)) (I 101 (25 : Int)) (I 101 (22 : Int)) (I 101 (1 : Int)) (D.2.2.2.1 (i + (1 : Int)))) → post (some (xi (0 : Int))) I L (gG D)))))))) : xR d 264 es_264 722 [xt 2, xr (some 0), xr (some 101), xi i] [] I L (gG D) c s post := sg_264_722  (⟨h.1, (xR_cF rfl rfl rfl (c_143 h.2.1) (by omega) (sg_264_729  ⟨h.1, (xR_cF rfl rfl rfl (c_257 h.2.2.1) (by omega) (sg_264_736  ⟨⟨h.2.2.2.1.1, h.2.2.2.1.2⟩, ⟨fun q2714 => (h.2.2.2.2.1 q2714), fun q2715 => ⟨(by decide), (h.2.2.2.2.2 q2715)⟩⟩⟩))⟩))⟩)
theorem ls_30 {I : XI} {L : XL} {D : GD} {d c s : Nat} {post : XQ} {i : Int} (hd : 9 ≤ d) (hi : 0 ≤ i ∧ i + 6 ≤ (D.2.2.2.2 : Int)) (hsc : ∀ j, xrg (D.2.2.2.1 j)) (hr : REL I D) (hc : ∀ I2 L2, REL I2 D → xR d 264 es_264 10 [xt 2, xr (some 0), xr (some 101), xi (i + 6)] [] I2 L2 (gG D) c s post) : xR d 264 es_264 722 [xt 2, xr (some 0), xr (some 101), xi i] [] I L (gG D) c s post := by
  have hrr := hr.rr
  obtain ⟨h1, h2, h3, h4, h5, h6, ⟨h70, h71, h72, h73⟩, h8⟩ := hr
  have hC := h2.2.1
  have hn := hC.n
  have hg := hC.g
  have htn := hC.turn
  have s1 := hsc (i + 1)
  have s2 := hsc (i + 2)
  have s3 := hsc (i + 3)
  have s4 := hsc (i + 4)
  have hrow := h2.1
  have e0 : I 111 0 = I 10 0 := congrFun hrow 0
  have e1 : I 111 1 = I 16 1 := congrFun hrow 1
  have e2 : I 111 2 = I 10 2 := congrFun hrow 2
  have e3 : I 111 3 = I 10 3 := congrFun hrow 3
  have e4 : I 111 4 = I 10 4 := congrFun hrow 4
  have e10 : I 111 10 = I 16 2 := congrFun hrow 10
  have hS : SO (I 111) := by rw [hrow]; exact hC.1
  have ef : I 101 21 = I 6 2 := h3.2.2.2.1.symm
  have ers : I 101 2 = (D.1 : Int) := h3.2.1
  have erc : I 0 4 = (D.1 : Int) := h3.1
  have hD := h3.2.2.1
  have hfr := h3.2.2.2.2.1
  have ht9 := h2.2.2.1
  have hf0 := hC.f
  have hRf := h3.2.2.2.2.2.1 (I 6 2) hfr.1 hfr.2
  have hRO : RO (I 103) (I 105) (I 106) (I 101 21) := by rw [ef]; exact h3.2.2.2.2.2.2.1 (I 6 2) hfr.1 hfr.2
  have hRO2 : RO (I 103) (I 105) (I 106) (I 6 2) := h3.2.2.2.2.2.2.1 (I 6 2) hfr.1 hfr.2
  have ekk : I 101 23 = 0 := h5.2.2
  have ex : I 101 22 = I 6 3 := h4.1.symm
  have hx := h4.2
  have etp : I 101 1 = I 1 6 := h1.1.symm
  have htp := h1.2.1
  have eun : I 101 25 = I 88 0 := h6.1.symm
  have hun := h6.2.1
  have hnx := h6.2.2.1
  have e101 : I 111 101 = I 6 4 := h5.1.2.1.symm
  have hm := h5.1.1
  have hfst := h2.2.2.2
  refine lw_30 (by omega) ?_
  simp only [← hrow, ef, ex, etp, eun, ers, erc]
  have hq := qcount_rg hS (rs := (D.1 : Int)) (f := I 6 2) (u := I 88 0) (x := I 6 3) (tp := I 1 6) (w := (D.2.2.2.1 (i + 1))) (by omega) (by omega) (by omega) hun hx htp
  have eq : (if (D.2.2.2.1 (i + 1)) = 0 then I 10 1 else if (D.2.2.2.1 (i + 1)) = 10 then I 6 4 else qcount (I 111) (D.1 : Int) (I 6 2) (I 88 0) (I 6 3) (I 1 6) (D.2.2.2.1 (i + 1))) = qcount (I 111) (D.1 : Int) (I 6 2) (I 88 0) (I 6 3) (I 1 6) (D.2.2.2.1 (i + 1)) := by
    split
    · rename_i q; rw [q]; show I 10 1 = I 111 1; omega
    · split
      · rename_i q; rw [q]; show I 6 4 = I 111 101; omega
      · rfl
  rw [eq]
  repeat' first | (with_reducible intro _) | (with_reducible refine And.intro ?_ ?_)
  all_goals first | omega | assumption | exact hC | (exact absurd rfl (by assumption)) | (exact absurd trivial (by assumption)) | exact hc _ _ ⟨h1, h2, h3, h4, h5, h6, ⟨h70, h71, h72, h73⟩, h8⟩
theorem R6_push {kp nx un : Int} {A1 A2 A3 W P P2 : Int → Int} {ac o p : Int} (h : R6 kp nx un A1 A2 A3 W P) (hS : SO P) (hT : P 10 ≤ 999) (hout : ∀ j, (j < 10 ∨ 26 ≤ j) → P2 j = P j) (hu : P = pundo ac o p P2) (hac : 0 ≤ ac ∧ ac ≤ 4) (ho : -1 ≤ o ∧ o < 10) (hp : -1 ≤ p ∧ p ≤ 99) (h3 : ac = 3 → (0 ≤ o ∧ o < P 3) ∧ (0 ≤ p ∧ p < P 3)) : R6 (pku kp) (Int.tmod (nx + 1) 20) (pku un) (xup A1 nx ac) (xup A2 nx o) (xup A3 nx p) (pkw W P un) P2 := by
  obtain ⟨e, hk, hn, hall⟩ := h
  subst e
  have e3 : P2 3 = P 3 := hout 3 (by omega)
  have etm : Int.tmod (nx + 1) 20 = (nx + 1) % 20 := Int.tmod_eq_emod_of_nonneg (by omega)
  have hps : ∀ W2 i, psn W2 P2 i = psn W2 P i := by
    intro W2 i
    funext j
    unfold psn
    split
    · rfl
    · exact hout j (by omega)
  rw [etm]
  by_cases q : kp = 20
  · have ek : pku kp = 20 := by unfold pku; rw [if_pos q]
    have eW : pkw W P kp = xcp P (xcp W W 16 0 304) 10 304 16 := by unfold pkw; rw [if_pos q, if_pos q]; rfl
    rw [ek, eW]
    have elast : psn (xcp P (xcp W W 16 0 304) 10 304 16) P 19 = P := by
      funext j
      unfold psn
      split
      · rw [xcp_in (by omega)]; congr 1; omega
      · rfl
    have eold : ∀ i, 0 ≤ i → i < 19 → psn (xcp P (xcp W W 16 0 304) 10 304 16) P i = psn W P (i + 1) := by
      intro i i0 i1
      funext j
      unfold psn
      split
      · rw [xcp_out (by omega), xcp_in (by omega)]; congr 1; omega
      · rfl
    refine ⟨rfl, by decide, by omega, fun i i0 i1 => ?_⟩
    rw [hps, hps]
    by_cases qi : i = 19
    · subst qi
      have ei : ((nx + 1) % 20 + 20 - 20 + 19) % 20 = nx := by omega
      rw [ei, xup_same, xup_same, xup_same, elast, if_pos (by decide), e3]
      exact ⟨hS, hT, hu, hac, ho, hp, h3⟩
    · have ei : ((nx + 1) % 20 + 20 - 20 + i) % 20 = (nx + 20 - kp + (i + 1)) % 20 := by omega
      have en : ¬ (nx + 20 - kp + (i + 1)) % 20 = nx := by omega
      rw [ei, xup_ne _ _ en, xup_ne _ _ en, xup_ne _ _ en, eold i i0 (by omega), if_neg (by omega), e3]
      have hh := hall (i + 1) (by omega) (by omega)
      by_cases q2 : i = 18
      · subst q2
        rw [show (18 : Int) + 1 = 19 by decide, elast]
        rw [if_pos (by omega)] at hh
        exact hh
      · rw [eold (i + 1) (by omega) (by omega)]
        rw [if_neg (by omega)] at hh
        exact hh
  · have ek : pku kp = kp + 1 := by unfold pku; rw [if_neg q]
    have eW : pkw W P kp = xcp P W 10 (16 * kp) 16 := by unfold pkw; rw [if_neg q, if_neg q]
    rw [ek, eW]
    have elast : psn (xcp P W 10 (16 * kp) 16) P kp = P := by
      funext j
      unfold psn
      split
      · rw [xcp_in (by omega)]; congr 1; omega
      · rfl
    have eold : ∀ i, 0 ≤ i → i < kp → psn (xcp P W 10 (16 * kp) 16) P i = psn W P i := by
      intro i i0 i1
      funext j
      unfold psn
      split
      · rw [xcp_out (by omega)]
      · rfl
    refine ⟨rfl, by omega, by omega, fun i i0 i1 => ?_⟩
    rw [hps, hps]
    by_cases qi : i = kp
    · subst qi
      have ei : ((nx + 1) % 20 + 20 - (i + 1) + i) % 20 = nx := by omega
      rw [ei, xup_same, xup_same, xup_same, elast, if_pos rfl, e3]
      exact ⟨hS, hT, hu, hac, ho, hp, h3⟩
    · have ei : ((nx + 1) % 20 + 20 - (kp + 1) + i) % 20 = (nx + 20 - kp + i) % 20 := by omega
      have en : ¬ (nx + 20 - kp + i) % 20 = nx := by omega
      rw [ei, xup_ne _ _ en, xup_ne _ _ en, xup_ne _ _ en, eold i i0 (by omega), if_neg (by omega), e3]
      have hh := hall i i0 (by omega)
      by_cases q2 : i + 1 = kp
      · rw [q2, elast]
        rw [if_pos q2] at hh
        exact hh
      · rw [eold (i + 1) (by omega) (by omega)]
        rw [if_neg q2] at hh
        exact hh
