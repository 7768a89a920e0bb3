theorem qround_c {a : Int → Int} (hS : SO a) (B B2 : Int → Int) (w : Int) : qround a B w = qround a B2 w := by
  have hn := hS.n
  have hg := hS.g
  unfold qround
  by_cases q : a 4 = 0 ∨ a 3 < a 4
  · rw [if_pos q, if_pos q]
  · rw [if_neg q, if_neg q]
    have h1 := rcf_st (a := a) (a 3).toNat (fun _ => 0) (-1, B) (-1, B2) ⟨rfl, fun h => absurd (show (0 : Int) ≤ -1 from h) (by decide)⟩
    have hz := rcf_some hS (by omega) (by omega) (a 3).toNat (by omega) (fun _ => 0) (-1, B) (by show (-1 : Int) ≤ -1 ∧ (-1 : Int) ≤ 810; decide) (fun i i0 i1 => by omega)
    rw [h1.1]
    by_cases q2 : 0 ≤ w ∧ w < a 3
    · rw [if_pos q2, if_pos q2, h1.2 hz w q2.1 q2.2]
    · rw [if_neg q2, if_neg q2]
theorem rcf_owner {a : Int → Int} (hS : SO a) {x0 : Int} : ∀ (K : Nat), (K : Int) ≤ a 3 → ∀ (p : Int → Int) (st : Int × (Int → Int)), (∀ i, 0 ≤ i → i < a 3 - (K : Int) → 0 ≤ p i ∧ p i < a 4) → (0 ≤ st.1 → ∀ i, 0 ≤ i → i < a 3 → 0 ≤ st.2 i ∧ st.2 i < a 4) → (0 ≤ (rcf a K p st).1 → ∀ i, 0 ≤ i → i < a 3 → 0 ≤ (rcf a K p st).2 i ∧ (rcf a K p st).2 i < a 4) := by
  intro K
  have hn := hS.n
  have hg := hS.g
  induction K with
  | zero =>
    intro _ p st hp hs
    unfold rcf rkp
    split
    · split
      · exact hs
      · intro _ i i0 i1
        show 0 ≤ xcp p st.2 0 0 (a 3) i ∧ xcp p st.2 0 0 (a 3) i < a 4
        rw [xcp0 i0 i1]
        exact hp i i0 (by omega)
    · exact hs
  | succ K ih =>
    intro hK p st hp hs
    have es : a 3 - ((K + 1 : Nat) : Int) = a 3 - (K : Int) - 1 := by omega
    rw [es] at hp
    unfold rcf
    have key : ∀ n : Nat, n ≤ (a 4).toNat → (0 ≤ (nfold (fun g st => if pcan (a 4) (xup p (a 3 - (K : Int) - 1) (g : Int)) (a 3 - (K : Int) - 1) = true then rcf a K (xup p (a 3 - (K : Int) - 1) (g : Int)) st else st) n st).1 → ∀ i, 0 ≤ i → i < a 3 → 0 ≤ (nfold (fun g st => if pcan (a 4) (xup p (a 3 - (K : Int) - 1) (g : Int)) (a 3 - (K : Int) - 1) = true then rcf a K (xup p (a 3 - (K : Int) - 1) (g : Int)) st else st) n st).2 i ∧ (nfold (fun g st => if pcan (a 4) (xup p (a 3 - (K : Int) - 1) (g : Int)) (a 3 - (K : Int) - 1) = true then rcf a K (xup p (a 3 - (K : Int) - 1) (g : Int)) st else st) n st).2 i < a 4) := by
      intro n
      induction n with
      | zero => intro _; exact hs
      | succ n ihn =>
        intro hnl
        have i1 := ihn (by omega)
        generalize hT : nfold (fun g st => if pcan (a 4) (xup p (a 3 - (K : Int) - 1) (g : Int)) (a 3 - (K : Int) - 1) = true then rcf a K (xup p (a 3 - (K : Int) - 1) (g : Int)) st else st) n st = T at i1
        have ef : nfold (fun g st => if pcan (a 4) (xup p (a 3 - (K : Int) - 1) (g : Int)) (a 3 - (K : Int) - 1) = true then rcf a K (xup p (a 3 - (K : Int) - 1) (g : Int)) st else st) (n + 1) st = if pcan (a 4) (xup p (a 3 - (K : Int) - 1) (n : Int)) (a 3 - (K : Int) - 1) = true then rcf a K (xup p (a 3 - (K : Int) - 1) (n : Int)) T else T := by rw [← hT]; rfl
        rw [ef]
        split
        · refine ih (by omega) _ _ (fun i i0 i9 => ?_) i1
          by_cases q : i = a 3 - (K : Int) - 1
          · rw [q, xup_same]; omega
          · rw [xup_ne _ _ q]; exact hp i i0 (by omega)
        · exact i1
    exact key _ (Nat.le_refl _)
theorem qround_rg {a : Int → Int} (hS : SO a) (B : Int → Int) (w : Int) : -2 ≤ qround a B w ∧ qround a B w ≤ 1000 := by
  have hn := hS.n
  have hg := hS.g
  unfold qround
  split
  · omega
  · rename_i q
    have hr := rcf_rg hS (a 3).toNat (fun _ => 0) (-1, B) (by show (-1 : Int) ≤ -1 ∧ (-1 : Int) ≤ 810; decide)
    have hz := rcf_some hS (by omega) (by omega) (a 3).toNat (by omega) (fun _ => 0) (-1, B) (by show (-1 : Int) ≤ -1 ∧ (-1 : Int) ≤ 810; decide) (fun i i0 i1 => by omega)
    have ho := rcf_owner (x0 := 0) hS (a 3).toNat (by omega) (fun _ => 0) (-1, B) (fun i i0 i1 => by omega) (fun h => absurd (show (0 : Int) ≤ -1 from h) (by decide)) hz
    split
    · omega
    · split
      · rename_i q2
        have := ho w q2.1 q2.2
        omega
      · omega
set_option maxRecDepth 8000 in
theorem sg_264_378 {d : Nat} {I : XI} {L : XL} {D : GD} {post : XQ} {c s : Nat} {u3 : Int} (h : ((0 ≤ (u3 + (1 : Int)) ∧ (u3 + (1 : Int)) < (D.2.2.2.2 : Int)) ∧ xR d 264 es_264 384 [xt 2, xr (some 0), xr (some 101), xi u3] [xi (D.2.2.2.1 (u3 + (1 : Int))), xr (some 0)] I L (gG D) c s post)) : xR d 264 es_264 378 [xt 2, xr (some 0), xr (some 101), xi u3] [] I L (gG D) c s post := xW_R (fun k => Nat.beq k 2 || Nat.beq k 6 || Nat.beq k 10 || Nat.beq k 48 || Nat.beq k 75 || Nat.beq k 85 || Nat.beq k 92 || Nat.beq k 97 || Nat.beq k 99 || Nat.beq k 104 || Nat.beq k 106 || Nat.beq k 116 || Nat.beq k 123 || Nat.beq k 138 || Nat.beq k 150 || Nat.beq k 165 || Nat.beq k 177 || Nat.beq k 182 || Nat.beq k 184 || Nat.beq k 199 || Nat.beq k 211 || Nat.beq k 221 || Nat.beq k 228 || Nat.beq k 243 || Nat.beq k 255 || Nat.beq k 265 || Nat.beq k 272 || Nat.beq k 277 || Nat.beq k 279 || Nat.beq k 299 || Nat.beq k 316 || Nat.beq k 321 || Nat.beq k 323 || Nat.beq k 328 || Nat.beq k 330 || Nat.beq k 345 || Nat.beq k 357 || Nat.beq k 367 || Nat.beq k 374 || Nat.beq k 384 || Nat.beq k 391 || Nat.beq k 401 || Nat.beq k 408 || Nat.beq k 428 || Nat.beq k 445 || Nat.beq k 460 || Nat.beq k 472 || Nat.beq k 487 || Nat.beq k 499 || Nat.beq k 524 || Nat.beq k 546 || Nat.beq k 561 || Nat.beq k 573 || Nat.beq k 593 || Nat.beq k 610 || Nat.beq k 620 || Nat.beq k 627 || Nat.beq k 642 || Nat.beq k 654 || Nat.beq k 664 || Nat.beq k 671 || Nat.beq k 696 || Nat.beq k 718 || Nat.beq k 728 || Nat.beq k 735 || Nat.beq k 745 || Nat.beq k 752 || Nat.beq k 762 || Nat.beq k 769) 6 _ _ _ _ _ _ _ _ _ _ _ _ h
set_option maxRecDepth 8000 in
theorem sg_264_385 {d : Nat} {I : XI} {L : XL} {D : GD} {post : XQ} {c s : Nat} {u3 : Int} {w0 : Int} (h : ((0 ≤ (u3 + (1 : Int)) ∧ (u3 + (1 : Int)) < (D.2.2.2.2 : Int)) ∧ xR d 264 es_264 391 [xt 2, xr (some 0), xr (some 101), xi u3] [xi (D.2.2.2.1 (u3 + (1 : Int))), xr (some 101), xi w0] I L (gG D) c s post)) : xR d 264 es_264 385 [xt 2, xr (some 0), xr (some 101), xi u3] [xi w0] I L (gG D) c s post := xW_R (fun k => Nat.beq k 2 || Nat.beq k 6 || Nat.beq k 10 || Nat.beq k 48 || Nat.beq k 75 || Nat.beq k 85 || Nat.beq k 92 || Nat.beq k 97 || Nat.beq k 99 || Nat.beq k 104 || Nat.beq k 106 || Nat.beq k 116 || Nat.beq k 123 || Nat.beq k 138 || Nat.beq k 150 || Nat.beq k 165 || Nat.beq k 177 || Nat.beq k 182 || Nat.beq k 184 || Nat.beq k 199 || Nat.beq k 211 || Nat.beq k 221 || Nat.beq k 228 || Nat.beq k 243 || Nat.beq k 255 || Nat.beq k 265 || Nat.beq k 272 || Nat.beq k 277 || Nat.beq k 279 || Nat.beq k 299 || Nat.beq k 316 || Nat.beq k 321 || Nat.beq k 323 || Nat.beq k 328 || Nat.beq k 330 || Nat.beq k 345 || Nat.beq k 357 || Nat.beq k 367 || Nat.beq k 374 || Nat.beq k 384 || Nat.beq k 391 || Nat.beq k 401 || Nat.beq k 408 || Nat.beq k 428 || Nat.beq k 445 || Nat.beq k 460 || Nat.beq k 472 || Nat.beq k 487 || Nat.beq k 499 || Nat.beq k 524 || Nat.beq k 546 || Nat.beq k 561 || Nat.beq k 573 || Nat.beq k 593 || Nat.beq k 610 || Nat.beq k 620 || Nat.beq k 627 || Nat.beq k 642 || Nat.beq k 654 || Nat.beq k 664 || Nat.beq k 671 || Nat.beq k 696 || Nat.beq k 718 || Nat.beq k 728 || Nat.beq k 735 || Nat.beq k 745 || Nat.beq k 752 || Nat.beq k 762 || Nat.beq k 769) 6 _ _ _ _ _ _ _ _ _ _ _ _ h
set_option maxRecDepth 8000 in
theorem sg_264_392 {d : Nat} {I : XI} {L : XL} {D : GD} {post : XQ} {c s : Nat} {u3 : Int} {w0 : Int} {w1 : Int} (h : (((-2147483648 ≤ w0 ∧ w0 ≤ 2147483647) ∧ (-2147483648 ≤ w1 ∧ w1 ≤ 2147483647)) ∧ ((w0 = w1 → xR d 264 es_264 10 [xt 2, xr (some 0), xr (some 101), xi (u3 + (6 : Int))] [] I L (gG D) c s post) ∧ (¬ w0 = w1 → (((0 : Int) = 0 ∨ (0 : Int) = 1) ∧ post (some (xi (0 : Int))) I L (gG D)))))) : xR d 264 es_264 392 [xt 2, xr (some 0), xr (some 101), xi u3] [xi w1, xi w0] I L (gG D) c s post := xW_R (fun k => Nat.beq k 2 || Nat.beq k 6 || Nat.beq k 10 || Nat.beq k 48 || Nat.beq k 75 || Nat.beq k 85 || Nat.beq k 92 || Nat.beq k 97 || Nat.beq k 99 || Nat.beq k 104 || Nat.beq k 106 || Nat.beq k 116 || Nat.beq k 123 || Nat.beq k 138 || Nat.beq k 150 || Nat.beq k 165 || Nat.beq k 177 || Nat.beq k 182 || Nat.beq k 184 || Nat.beq k 199 || Nat.beq k 211 || Nat.beq k 221 || Nat.beq k 228 || Nat.beq k 243 || Nat.beq k 255 || Nat.beq k 265 || Nat.beq k 272 || Nat.beq k 277 || Nat.beq k 279 || Nat.beq k 299 || Nat.beq k 316 || Nat.beq k 321 || Nat.beq k 323 || Nat.beq k 328 || Nat.beq k 330 || Nat.beq k 345 || Nat.beq k 357 || Nat.beq k 367 || Nat.beq k 374 || Nat.beq k 384 || Nat.beq k 391 || Nat.beq k 401 || Nat.beq k 408 || Nat.beq k 428 || Nat.beq k 445 || Nat.beq k 460 || Nat.beq k 472 || Nat.beq k 487 || Nat.beq k 499 || Nat.beq k 524 || Nat.beq k 546 || Nat.beq k 561 || Nat.beq k 573 || Nat.beq k 593 || Nat.beq k 610 || Nat.beq k 620 || Nat.beq k 627 || Nat.beq k 642 || Nat.beq k 654 || Nat.beq k 664 || Nat.beq k 671 || Nat.beq k 696 || Nat.beq k 718 || Nat.beq k 728 || Nat.beq k 735 || Nat.beq k 745 || Nat.beq k 752 || Nat.beq k 762 || Nat.beq k 769) 3 _ _ _ _ _ _ _ _ _ _ _ _ h
set_option maxRecDepth 8000 in
theorem lw_18 {d : Nat} {I : XI} {L : XL} {D : GD} {post : XQ}  {c s : Nat} {i : Int} (hd : 15 ≤ d) (h : (((0 ≤ (i + (1 : Int)) ∧ (i + (1 : Int)) < (D.2.2.2.2 : Int))) ∧ ((CO (I 10) (I 11) (I 12) (I 13) (I 14) (I 15) (I 16) (I 17) (I 18) (I 111) ∧ (-2147483648 ≤ (D.2.2.2.1 (i + (1 : Int))) ∧ (D.2.2.2.1 (i + (1 : Int))) ≤ 2147483647)) ∧ (∀ (e3308 : Int) (e3309 : Int → Int) (e3310 : Int → Int) (e3311 : Int → Int), ((SO (I 111) ∧ (-2147483648 ≤ (D.2.2.2.1 (i + (1 : Int))) ∧ (D.2.2.2.1 (i + (1 : Int))) ≤ 2147483647)) ∧ (∀ (e3312 : Int) (e3313 : Int → Int) (e3314 : Int → Int), (((-2147483648 ≤ (if (I 10 (0 : Int) = 1 ∧ (-1 ≤ (D.2.2.2.1 (i + (1 : Int))) ∧ (D.2.2.2.1 (i + (1 : Int))) ≤ 9)) then qround (cvw (I 10) (I 11) (I 12) (I 13) (I 14) (I 16) (I 17) (I 18) (I 111)) (I 94) (D.2.2.2.1 (i + (1 : Int))) else -3) ∧ (if (I 10 (0 : Int) = 1 ∧ (-1 ≤ (D.2.2.2.1 (i + (1 : Int))) ∧ (D.2.2.2.1 (i + (1 : Int))) ≤ 9)) then qround (cvw (I 10) (I 11) (I 12) (I 13) (I 14) (I 16) (I 17) (I 18) (I 111)) (I 94) (D.2.2.2.1 (i + (1 : Int))) else -3) ≤ 2147483647) ∧ (-2147483648 ≤ (if (I 111 (0 : Int) = 1 ∧ (-1 ≤ (D.2.2.2.1 (i + (1 : Int))) ∧ (D.2.2.2.1 (i + (1 : Int))) ≤ 9)) then qround (I 111) (I 115) (D.2.2.2.1 (i + (1 : Int))) else -3) ∧ (if (I 111 (0 : Int) = 1 ∧ (-1 ≤ (D.2.2.2.1 (i + (1 : Int))) ∧ (D.2.2.2.1 (i + (1 : Int))) ≤ 9)) then qround (I 111) (I 115) (D.2.2.2.1 (i + (1 : Int))) else -3) ≤ 2147483647)) ∧ (((if (I 10 (0 : Int) = 1 ∧ (-1 ≤ (D.2.2.2.1 (i + (1 : Int))) ∧ (D.2.2.2.1 (i + (1 : Int))) ≤ 9)) then qround (cvw (I 10) (I 11) (I 12) (I 13) (I 14) (I 16) (I 17) (I 18) (I 111)) (I 94) (D.2.2.2.1 (i + (1 : Int))) else -3) = (if (I 111 (0 : Int) = 1 ∧ (-1 ≤ (D.2.2.2.1 (i + (1 : Int))) ∧ (D.2.2.2.1 (i + (1 : Int))) ≤ 9)) then qround (I 111) (I 115) (D.2.2.2.1 (i + (1 : Int))) else -3) → xR d 264 es_264 10 [xt 2, xr (some 0), xr (some 101), xi (i + (6 : Int))] [] (xsc (xsc (xsc (xsc (xsc (xsc (xsc I 92 (xup (I 92) (6 : Int) (if (I 10 (0 : Int) = 1 ∧ (-1 ≤ (D.2.2.2.1 (i + (1 : Int))) ∧ (D.2.2.2.1 (i + (1 : Int))) ≤ 9)) then e3308 else I 92 (6 : Int)))) 93 (if (I 10 (0 : Int) = 1 ∧ (-1 ≤ (D.2.2.2.1 (i + (1 : Int))) ∧ (D.2.2.2.1 (i + (1 : Int))) ≤ 9)) then e3309 else (I 93))) 94 (if (I 10 (0 : Int) = 1 ∧ (-1 ≤ (D.2.2.2.1 (i + (1 : Int))) ∧ (D.2.2.2.1 (i + (1 : Int))) ≤ 9)) then e3310 else (I 94))) 95 (if (I 10 (0 : Int) = 1 ∧ (-1 ≤ (D.2.2.2.1 (i + (1 : Int))) ∧ (D.2.2.2.1 (i + (1 : Int))) ≤ 9)) then e3311 else (I 95))) 101 (xup (I 101) (29 : Int) (if (I 111 (0 : Int) = 1 ∧ (-1 ≤ (D.2.2.2.1 (i + (1 : Int))) ∧ (D.2.2.2.1 (i + (1 : Int))) ≤ 9)) then e3312 else I 101 (29 : Int)))) 114 (if (I 111 (0 : Int) = 1 ∧ (-1 ≤ (D.2.2.2.1 (i + (1 : Int))) ∧ (D.2.2.2.1 (i + (1 : Int))) ≤ 9)) then e3313 else (I 114))) 115 (if (I 111 (0 : Int) = 1 ∧ (-1 ≤ (D.2.2.2.1 (i + (1 : Int))) ∧ (D.2.2.2.1 (i + (1 : Int))) ≤ 9)) then e3314 else (I 115))) L (gG D) c s post) ∧ (¬ (if (I 10 (0 : Int) = 1 ∧ (-1 ≤ (D.2.2.2.1 (i + (1 : Int))) ∧ (D.2.2.2.1 (i + (1 : Int))) ≤ 9)) then qround (cvw (I 10) (I 11) (I 12) (I 13) (I 14) (I 16) (I 17) (I 18) (I 111)) (I 94) (D.2.2.2.1 (i + (1 : Int))) else -3) = (if (I 111 (0 : Int) = 1 ∧ (-1 ≤ (D.2.2.2.1 (i + (1 : Int))) ∧ (D.2.2.2.1 (i + (1 : Int))) ≤ 9)) then qround (I 111) (I 115) (D.2.2.2.1 (i + (1 : Int))) else -3) → post (some (xi (0 : Int))) (xsc (xsc (xsc (xsc (xsc (xsc (xsc I 92 (xup (I 92) (6 : Int) (if (I 10 (0 : Int) = 1 ∧ (-1 ≤ (D.2.2.2.1 (i + (1 : Int))) ∧ (D.2.2.2.1 (i + (1 : Int))) ≤ 9)) then e3308 else I 92 (6 : Int)))) 93 (if (I 10 (0 : Int) = 1 ∧ (-1 ≤ (D.2.2.2.1 (i + (1 : Int))) ∧ (D.2.2.2.1 (i + (1 : Int))) ≤ 9)) then e3309 else (I 93))) 94 (if (I 10 (0 : Int) = 1 ∧ (-1 ≤ (D.2.2.2.1 (i + (1 : Int))) ∧ (D.2.2.2.1 (i + (1 : Int))) ≤ 9)) then e3310 else (I 94))) 95 (if (I 10 (0 : Int) = 1 ∧ (-1 ≤ (D.2.2.2.1 (i + (1 : Int))) ∧ (D.2.2.2.1 (i + (1 : Int))) ≤ 9)) then e3311 else (I 95))) 101 (xup (I 101) (29 : Int) (if (I 111 (0 : Int) = 1 ∧ (-1 ≤ (D.2.2.2.1 (i + (1 : Int))) ∧ (D.2.2.2.1 (i + (1 : Int))) ≤ 9)) then e3312 else I 101 (29 : Int)))) 114 (if (I 111 (0 : Int) = 1 ∧ (-1 ≤ (D.2.2.2.1 (i + (1 : Int))) ∧ (D.2.2.2.1 (i + (1 : Int))) ≤ 9)) then e3313 else (I 114))) 115 (if (I 111 (0 : Int) = 1 ∧ (-1 ≤ (D.2.2.2.1 (i + (1 : Int))) ∧ (D.2.2.2.1 (i + (1 : Int))) ≤ 9)) then e3314 else (I 115))) L (gG D)))))))))) : xR d 264 es_264 378 [xt 2, xr (some 0), xr (some 101), xi i] [] I L (gG D) c s post := sg_264_378  (⟨h.1, (xR_cQ rfl rfl rfl (c_131 h.2.1) (by omega) (fun _ _ _ _ hx3317 => by obtain ⟨e3308, e3309, e3310, e3311, rfl, rfl, rfl, rfl⟩ := hx3317; exact (sg_264_385  ⟨h.1, (xR_cQ rfl rfl rfl (c_235 (h.2.2 e3308 e3309 e3310 e3311).1) (by omega) (fun _ _ _ _ hx3319 => by obtain ⟨e3312, e3313, e3314, rfl, rfl, rfl, rfl⟩ := hx3319; exact (sg_264_392  ⟨⟨((h.2.2 e3308 e3309 e3310 e3311).2 e3312 e3313 e3314).1.1, ((h.2.2 e3308 e3309 e3310 e3311).2 e3312 e3313 e3314).1.2⟩, ⟨fun q3315 => (((h.2.2 e3308 e3309 e3310 e3311).2 e3312 e3313 e3314).2.1 q3315), fun q3316 => ⟨(by decide), (((h.2.2 e3308 e3309 e3310 e3311).2 e3312 e3313 e3314).2.2 q3316)⟩⟩⟩)))⟩)))⟩)
theorem ls_18 {I : XI} {L : XL} {D : GD} {d c s : Nat} {post : XQ} {i : Int} (hd : 16 ≤ d) (hi : 0 ≤ i ∧ i + 6 ≤ (D.2.2.2.2 : Int)) (hsc : ∀ j, xrg (D.2.2.2.1 j)) (hr : REL I D) (hc : ∀ I2 L2, REL I2 D → xR d 264 es_264 10 [xt 2, xr (some 0), xr (some 101), xi (i + 6)] [] I2 L2 (gG D) c s post) : xR d 264 es_264 378 [xt 2, xr (some 0), xr (some 101), xi i] [] I L (gG D) c s post := by
  have hrr := hr.rr
  obtain ⟨h1, h2, h3, h4, h5, h6, ⟨h70, h71, h72, h73⟩, h8⟩ := hr
  have hC := h2.2.1
  have hn := hC.n
  have hg := hC.g
  have htn := hC.turn
  have s1 := hsc (i + 1)
  have s2 := hsc (i + 2)
  have s3 := hsc (i + 3)
  have s4 := hsc (i + 4)
  have hrow := h2.1
  have e0 : I 111 0 = I 10 0 := congrFun hrow 0
  have e1 : I 111 1 = I 16 1 := congrFun hrow 1
  have e2 : I 111 2 = I 10 2 := congrFun hrow 2
  have e3 : I 111 3 = I 10 3 := congrFun hrow 3
  have e4 : I 111 4 = I 10 4 := congrFun hrow 4
  have e10 : I 111 10 = I 16 2 := congrFun hrow 10
  have hS : SO (I 111) := by rw [hrow]; exact hC.1
  have ef : I 101 21 = I 6 2 := h3.2.2.2.1.symm
  have ers : I 101 2 = (D.1 : Int) := h3.2.1
  have erc : I 0 4 = (D.1 : Int) := h3.1
  have hD := h3.2.2.1
  have hfr := h3.2.2.2.2.1
  have ht9 := h2.2.2.1
  have hf0 := hC.f
  have hRf := h3.2.2.2.2.2.1 (I 6 2) hfr.1 hfr.2
  have hRO : RO (I 103) (I 105) (I 106) (I 101 21) := by rw [ef]; exact h3.2.2.2.2.2.2.1 (I 6 2) hfr.1 hfr.2
  have hRO2 : RO (I 103) (I 105) (I 106) (I 6 2) := h3.2.2.2.2.2.2.1 (I 6 2) hfr.1 hfr.2
  have ekk : I 101 23 = 0 := h5.2.2
  have ex : I 101 22 = I 6 3 := h4.1.symm
  have hx := h4.2
  have etp : I 101 1 = I 1 6 := h1.1.symm
  have htp := h1.2.1
  have eun : I 101 25 = I 88 0 := h6.1.symm
  have hun := h6.2.1
  have hnx := h6.2.2.1
  refine lw_18 (by omega) ?_
  simp only [← hrow, e0, e3, e4, e10, ef, ekk, ite_self]
  rw [qround_c hS (I 94) (I 115)]
  have hq : (I 10 0 = 1 ∧ (-1 ≤ (D.2.2.2.1 (i + 1)) ∧ (D.2.2.2.1 (i + 1)) ≤ 9)) → -2 ≤ qround (I 111) (I 115) (D.2.2.2.1 (i + 1)) ∧ qround (I 111) (I 115) (D.2.2.2.1 (i + 1)) ≤ 1000 := fun q => qround_rg hS (I 115) (D.2.2.2.1 (i + 1))
  repeat' first | (with_reducible intro _) | (with_reducible refine And.intro ?_ ?_)
  all_goals first | omega | assumption | exact hRf | exact hC | (split <;> first | omega | (have q := hq (by assumption); omega)) | (exact absurd rfl (by assumption)) | (exact absurd trivial (by assumption)) | (exact False.elim (by assumption)) | exact hc _ _ ⟨h1, h2, h3, h4, h5, h6, ⟨h70, h71, h72, h73⟩, h8⟩
