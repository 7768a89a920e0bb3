theorem gfit_c {f : Int} {R R2 : (Int → Int64) → Int64} (h : f < 0 ∨ R = R2) (kk : Int) (a : Int → Int) : ∀ k, gfit f R kk a k = gfit f R2 kk a k := by
  intro k
  induction k with
  | zero => rfl
  | succ k ih =>
    unfold gfit
    rw [ih, ppassn_c h]
theorem pftn_at {sg cl cn : Int → Int} {kk : Int} {a f : Int → Int} : ∀ (n : Nat) (j : Int), 0 ≤ j → j < (n : Int) → pftn sg cl cn kk a f n j = xb (pfitn sg cl cn kk a j 61 = true) := by
  intro n
  induction n with
  | zero => intro j h0 h1; exact absurd h1 (by omega)
  | succ n ih =>
    intro j h0 h1
    unfold pftn
    by_cases q : j = (n : Int)
    · subst q; rw [xup_same]
    · rw [xup_ne _ _ q]; exact ih j h0 (by omega)
theorem prd_congr {F F2 : Int → Int} {rs : Int} (h : ∀ i, 0 ≤ i → i ≤ rs → F i = F2 i) : ∀ n : Nat, (n : Int) ≤ rs + 1 → prd F rs n = prd F2 rs n := by
  intro n
  induction n with
  | zero => intro _; rfl
  | succ n ih =>
    intro hn
    unfold prd
    rw [ih (by omega), h (rs - (n : Int)) (by omega) (by omega)]
def tbF (x : Nat) (i : Int) : Int := if x.testBit i.toNat = true then 1 else 0
theorem prd_all : (List.range 7).all (fun r => (List.range 128).all (fun x => decide (2 ^ (r + 1) ≤ x) || (decide (pbits (x : Int) = (prd (tbF x) (r : Int) (r + 1)).1) && decide ((if (x : Int) = 0 then -2 else pntz (x : Int) - 1) = (prd (tbF x) (r : Int) (r + 1)).2)))) = true := by decide +kernel
theorem ruled_eq {G : Int → Bool} {F : Int → Int} {n : Nat} (hn : n ≤ 6) (h : ∀ i : Int, 0 ≤ i → i ≤ (n : Int) → F i = if G (i - 1) = true then 1 else 0) (w : Int) : (if w = 0 then pbits (cfs G (n + 1)) else if cfs G (n + 1) = 0 then -2 else pntz (cfs G (n + 1)) - 1) = qruled F (n : Int) w := by
  have hx := cfsN_lt G (n + 1)
  have h2 : 2 ^ (n + 1) ≤ 2 ^ 7 := Nat.pow_le_pow_right (by decide) (by omega)
  have hall := List.all_eq_true.mp (List.all_eq_true.mp prd_all n (List.mem_range.mpr (by omega))) (cfsN G (n + 1)) (List.mem_range.mpr (by omega))
  simp only [Bool.or_eq_true, Bool.and_eq_true, decide_eq_true_eq] at hall
  have hc : prd F (n : Int) (n + 1) = prd (tbF (cfsN G (n + 1))) (n : Int) (n + 1) := prd_congr (fun i i0 i1 => by
    rw [h i i0 i1]
    unfold tbF
    rw [cfsN_bit G (n + 1) i.toNat (by omega), Int.toNat_of_nonneg i0]) (n + 1) (by omega)
  unfold qruled
  rw [show ((n : Int) + 1).toNat = n + 1 by omega, hc, cfs_N G (n + 1) (by omega)]
  rcases hall with q | ⟨a, b⟩
  · omega
  · rw [← a, ← b]
theorem ruled_rg {x w : Int} (h0 : 0 ≤ x) (h1 : x < 128) : -2 ≤ (if w = 0 then pbits x else if x = 0 then -2 else pntz x - 1) ∧ (if w = 0 then pbits x else if x = 0 then -2 else pntz x - 1) ≤ 10 := by
  have hp := pbits_rg h0 (show x < 1024 by omega)
  have hz : 0 ≤ pntz x ∧ pntz x ≤ 6 := by
    unfold pntz
    (repeat' split) <;> omega
  (repeat' split) <;> omega
set_option maxRecDepth 8000 in
theorem sg_264_614 {d : Nat} {I : XI} {L : XL} {D : GD} {post : XQ} {c s : Nat} {u3 : Int} (h : ((0 ≤ (u3 + (1 : Int)) ∧ (u3 + (1 : Int)) < (D.2.2.2.2 : Int)) ∧ xR d 264 es_264 620 [xt 2, xr (some 0), xr (some 101), xi u3] [xi (D.2.2.2.1 (u3 + (1 : Int))), xr (some 0)] I L (gG D) c s post)) : xR d 264 es_264 614 [xt 2, xr (some 0), xr (some 101), xi u3] [] I L (gG D) c s post := xW_R (fun k => Nat.beq k 2 || Nat.beq k 6 || Nat.beq k 10 || Nat.beq k 48 || Nat.beq k 75 || Nat.beq k 85 || Nat.beq k 92 || Nat.beq k 97 || Nat.beq k 99 || Nat.beq k 104 || Nat.beq k 106 || Nat.beq k 116 || Nat.beq k 123 || Nat.beq k 138 || Nat.beq k 150 || Nat.beq k 165 || Nat.beq k 177 || Nat.beq k 182 || Nat.beq k 184 || Nat.beq k 199 || Nat.beq k 211 || Nat.beq k 221 || Nat.beq k 228 || Nat.beq k 243 || Nat.beq k 255 || Nat.beq k 265 || Nat.beq k 272 || Nat.beq k 277 || Nat.beq k 279 || Nat.beq k 299 || Nat.beq k 316 || Nat.beq k 321 || Nat.beq k 323 || Nat.beq k 328 || Nat.beq k 330 || Nat.beq k 345 || Nat.beq k 357 || Nat.beq k 367 || Nat.beq k 374 || Nat.beq k 384 || Nat.beq k 391 || Nat.beq k 401 || Nat.beq k 408 || Nat.beq k 428 || Nat.beq k 445 || Nat.beq k 460 || Nat.beq k 472 || Nat.beq k 487 || Nat.beq k 499 || Nat.beq k 524 || Nat.beq k 546 || Nat.beq k 561 || Nat.beq k 573 || Nat.beq k 593 || Nat.beq k 610 || Nat.beq k 620 || Nat.beq k 627 || Nat.beq k 642 || Nat.beq k 654 || Nat.beq k 664 || Nat.beq k 671 || Nat.beq k 696 || Nat.beq k 718 || Nat.beq k 728 || Nat.beq k 735 || Nat.beq k 745 || Nat.beq k 752 || Nat.beq k 762 || Nat.beq k 769) 6 _ _ _ _ _ _ _ _ _ _ _ _ h
set_option maxRecDepth 8000 in
theorem sg_264_621 {d : Nat} {I : XI} {L : XL} {D : GD} {post : XQ} {c s : Nat} {u3 : Int} {w0 : Int} (h : ((0 ≤ (u3 + (1 : Int)) ∧ (u3 + (1 : Int)) < (D.2.2.2.2 : Int)) ∧ xR d 264 es_264 627 [xt 2, xr (some 0), xr (some 101), xi u3] [xi (D.2.2.2.1 (u3 + (1 : Int))), xr (some 101), xi w0] I L (gG D) c s post)) : xR d 264 es_264 621 [xt 2, xr (some 0), xr (some 101), xi u3] [xi w0] I L (gG D) c s post := xW_R (fun k => Nat.beq k 2 || Nat.beq k 6 || Nat.beq k 10 || Nat.beq k 48 || Nat.beq k 75 || Nat.beq k 85 || Nat.beq k 92 || Nat.beq k 97 || Nat.beq k 99 || Nat.beq k 104 || Nat.beq k 106 || Nat.beq k 116 || Nat.beq k 123 || Nat.beq k 138 || Nat.beq k 150 || Nat.beq k 165 || Nat.beq k 177 || Nat.beq k 182 || Nat.beq k 184 || Nat.beq k 199 || Nat.beq k 211 || Nat.beq k 221 || Nat.beq k 228 || Nat.beq k 243 || Nat.beq k 255 || Nat.beq k 265 || Nat.beq k 272 || Nat.beq k 277 || Nat.beq k 279 || Nat.beq k 299 || Nat.beq k 316 || Nat.beq k 321 || Nat.beq k 323 || Nat.beq k 328 || Nat.beq k 330 || Nat.beq k 345 || Nat.beq k 357 || Nat.beq k 367 || Nat.beq k 374 || Nat.beq k 384 || Nat.beq k 391 || Nat.beq k 401 || Nat.beq k 408 || Nat.beq k 428 || Nat.beq k 445 || Nat.beq k 460 || Nat.beq k 472 || Nat.beq k 487 || Nat.beq k 499 || Nat.beq k 524 || Nat.beq k 546 || Nat.beq k 561 || Nat.beq k 573 || Nat.beq k 593 || Nat.beq k 610 || Nat.beq k 620 || Nat.beq k 627 || Nat.beq k 642 || Nat.beq k 654 || Nat.beq k 664 || Nat.beq k 671 || Nat.beq k 696 || Nat.beq k 718 || Nat.beq k 728 || Nat.beq k 735 || Nat.beq k 745 || Nat.beq k 752 || Nat.beq k 762 || Nat.beq k 769) 6 _ _ _ _ _ _ _ _ _ _ _ _ h
set_option maxRecDepth 8000 in
theorem sg_264_628 {d : Nat} {I : XI} {L : XL} {D : GD} {post : XQ} {c s : Nat} {u3 : Int} {w0 : Int} {w1 : Int} (h : (((-2147483648 ≤ w0 ∧ w0 ≤ 2147483647) ∧ (-2147483648 ≤ w1 ∧ w1 ≤ 2147483647)) ∧ ((w0 = w1 → xR d 264 es_264 10 [xt 2, xr (some 0), xr (some 101), xi (u3 + (6 : Int))] [] I L (gG D) c s post) ∧ (¬ w0 = w1 → (((0 : Int) = 0 ∨ (0 : Int) = 1) ∧ post (some (xi (0 : Int))) I L (gG D)))))) : xR d 264 es_264 628 [xt 2, xr (some 0), xr (some 101), xi u3] [xi w1, xi w0] I L (gG D) c s post := xW_R (fun k => Nat.beq k 2 || Nat.beq k 6 || Nat.beq k 10 || Nat.beq k 48 || Nat.beq k 75 || Nat.beq k 85 || Nat.beq k 92 || Nat.beq k 97 || Nat.beq k 99 || Nat.beq k 104 || Nat.beq k 106 || Nat.beq k 116 || Nat.beq k 123 || Nat.beq k 138 || Nat.beq k 150 || Nat.beq k 165 || Nat.beq k 177 || Nat.beq k 182 || Nat.beq k 184 || Nat.beq k 199 || Nat.beq k 211 || Nat.beq k 221 || Nat.beq k 228 || Nat.beq k 243 || Nat.beq k 255 || Nat.beq k 265 || Nat.beq k 272 || Nat.beq k 277 || Nat.beq k 279 || Nat.beq k 299 || Nat.beq k 316 || Nat.beq k 321 || Nat.beq k 323 || Nat.beq k 328 || Nat.beq k 330 || Nat.beq k 345 || Nat.beq k 357 || Nat.beq k 367 || Nat.beq k 374 || Nat.beq k 384 || Nat.beq k 391 || Nat.beq k 401 || Nat.beq k 408 || Nat.beq k 428 || Nat.beq k 445 || Nat.beq k 460 || Nat.beq k 472 || Nat.beq k 487 || Nat.beq k 499 || Nat.beq k 524 || Nat.beq k 546 || Nat.beq k 561 || Nat.beq k 573 || Nat.beq k 593 || Nat.beq k 610 || Nat.beq k 620 || Nat.beq k 627 || Nat.beq k 642 || Nat.beq k 654 || Nat.beq k 664 || Nat.beq k 671 || Nat.beq k 696 || Nat.beq k 718 || Nat.beq k 728 || Nat.beq k 735 || Nat.beq k 745 || Nat.beq k 752 || Nat.beq k 762 || Nat.beq k 769) 3 _ _ _ _ _ _ _ _ _ _ _ _ h
set_option maxRecDepth 8000 in
theorem lw_26 {d : Nat} {I : XI} {L : XL} {D : GD} {post : XQ}  {c s : Nat} {i : Int} (hd : 9 ≤ d) (h : (((0 ≤ (i + (1 : Int)) ∧ (i + (1 : Int)) < (D.2.2.2.2 : Int))) ∧ ((CO (I 10) (I 11) (I 12) (I 13) (I 14) (I 15) (I 16) (I 17) (I 18) (I 111) ∧ I 16 (1 : Int) = I 10 (1 : Int) ∧ NT (I 6) (I 7) (I 8) (I 9) (I 111) (I 10) ∧ D.1 ≤ 6 ∧ I 0 (4 : Int) = (D.1 : Int) ∧ (∀ f, -1 ≤ f → f < (D.1 : Int) → CRO (I 127) (I 128) (I 130) (I 131) (I 133) (I 134) (I 136) (I 137) (I 139) (I 140) (I 142) (I 143) D f) ∧ (-2147483648 ≤ (D.2.2.2.1 (i + (1 : Int))) ∧ (D.2.2.2.1 (i + (1 : Int))) ≤ 2147483647)) ∧ (∀ (e2739 : Int) (e2740 : Int) (e2741 : Int → Int) (e2742 : Int → Int) (e2743 : Int → Int64) (e2744 : Int → Int64), ((SO (I 111) ∧ NO (I 111) ∧ (0 ≤ I 101 (2 : Int) ∧ I 101 (2 : Int) ≤ 6) ∧ ROA (I 103) (I 105) (I 106) (I 101 (2 : Int)) ∧ (∀ j, (I 120) j = 0 ∨ (I 120) j = 1) ∧ (∀ j, -1 ≤ (I 121) j ∧ (I 121) j < 5) ∧ (-2147483648 ≤ (D.2.2.2.1 (i + (1 : Int))) ∧ (D.2.2.2.1 (i + (1 : Int))) ≤ 2147483647)) ∧ (∀ (e2745 : Int) (e2746 : Int → Int64) (e2747 : Int → Int64) (e2748 : Int → Int), (((-2147483648 ≤ (if I 10 (0 : Int) = 1 ∧ (0 ≤ (D.2.2.2.1 (i + (1 : Int))) ∧ (D.2.2.2.1 (i + (1 : Int))) ≤ 1) then (if (D.2.2.2.1 (i + (1 : Int))) = 0 then pbits (cfs (fun f => gfit f (cR (I 127) (I 128) (I 130) (I 131) (I 133) (I 134) (I 136) (I 137) (I 139) (I 140) (I 142) (I 143) D f) (0 : Int) (cvw (I 10) (I 11) (I 12) (I 13) (I 14) (I 16) (I 17) (I 18) (I 111)) 61) (D.1 + 1)) else if (cfs (fun f => gfit f (cR (I 127) (I 128) (I 130) (I 131) (I 133) (I 134) (I 136) (I 137) (I 139) (I 140) (I 142) (I 143) D f) (0 : Int) (cvw (I 10) (I 11) (I 12) (I 13) (I 14) (I 16) (I 17) (I 18) (I 111)) 61) (D.1 + 1)) = 0 then -2 else pntz (cfs (fun f => gfit f (cR (I 127) (I 128) (I 130) (I 131) (I 133) (I 134) (I 136) (I 137) (I 139) (I 140) (I 142) (I 143) D f) (0 : Int) (cvw (I 10) (I 11) (I 12) (I 13) (I 14) (I 16) (I 17) (I 18) (I 111)) 61) (D.1 + 1)) - 1) else -3) ∧ (if I 10 (0 : Int) = 1 ∧ (0 ≤ (D.2.2.2.1 (i + (1 : Int))) ∧ (D.2.2.2.1 (i + (1 : Int))) ≤ 1) then (if (D.2.2.2.1 (i + (1 : Int))) = 0 then pbits (cfs (fun f => gfit f (cR (I 127) (I 128) (I 130) (I 131) (I 133) (I 134) (I 136) (I 137) (I 139) (I 140) (I 142) (I 143) D f) (0 : Int) (cvw (I 10) (I 11) (I 12) (I 13) (I 14) (I 16) (I 17) (I 18) (I 111)) 61) (D.1 + 1)) else if (cfs (fun f => gfit f (cR (I 127) (I 128) (I 130) (I 131) (I 133) (I 134) (I 136) (I 137) (I 139) (I 140) (I 142) (I 143) D f) (0 : Int) (cvw (I 10) (I 11) (I 12) (I 13) (I 14) (I 16) (I 17) (I 18) (I 111)) 61) (D.1 + 1)) = 0 then -2 else pntz (cfs (fun f => gfit f (cR (I 127) (I 128) (I 130) (I 131) (I 133) (I 134) (I 136) (I 137) (I 139) (I 140) (I 142) (I 143) D f) (0 : Int) (cvw (I 10) (I 11) (I 12) (I 13) (I 14) (I 16) (I 17) (I 18) (I 111)) 61) (D.1 + 1)) - 1) else -3) ≤ 2147483647) ∧ (-2147483648 ≤ (if I 111 (0 : Int) = 1 ∧ (0 ≤ (D.2.2.2.1 (i + (1 : Int))) ∧ (D.2.2.2.1 (i + (1 : Int))) ≤ 1) then qruled (pftn (I 103) (I 105) (I 106) (I 101 (23 : Int)) (I 111) (I 120) (I 101 (2 : Int) + 1).toNat) (I 101 (2 : Int)) (D.2.2.2.1 (i + (1 : Int))) else -3) ∧ (if I 111 (0 : Int) = 1 ∧ (0 ≤ (D.2.2.2.1 (i + (1 : Int))) ∧ (D.2.2.2.1 (i + (1 : Int))) ≤ 1) then qruled (pftn (I 103) (I 105) (I 106) (I 101 (23 : Int)) (I 111) (I 120) (I 101 (2 : Int) + 1).toNat) (I 101 (2 : Int)) (D.2.2.2.1 (i + (1 : Int))) else -3) ≤ 2147483647)) ∧ (((if I 10 (0 : Int) = 1 ∧ (0 ≤ (D.2.2.2.1 (i + (1 : Int))) ∧ (D.2.2.2.1 (i + (1 : Int))) ≤ 1) then (if (D.2.2.2.1 (i + (1 : Int))) = 0 then pbits (cfs (fun f => gfit f (cR (I 127) (I 128) (I 130) (I 131) (I 133) (I 134) (I 136) (I 137) (I 139) (I 140) (I 142) (I 143) D f) (0 : Int) (cvw (I 10) (I 11) (I 12) (I 13) (I 14) (I 16) (I 17) (I 18) (I 111)) 61) (D.1 + 1)) else if (cfs (fun f => gfit f (cR (I 127) (I 128) (I 130) (I 131) (I 133) (I 134) (I 136) (I 137) (I 139) (I 140) (I 142) (I 143) D f) (0 : Int) (cvw (I 10) (I 11) (I 12) (I 13) (I 14) (I 16) (I 17) (I 18) (I 111)) 61) (D.1 + 1)) = 0 then -2 else pntz (cfs (fun f => gfit f (cR (I 127) (I 128) (I 130) (I 131) (I 133) (I 134) (I 136) (I 137) (I 139) (I 140) (I 142) (I 143) D f) (0 : Int) (cvw (I 10) (I 11) (I 12) (I 13) (I 14) (I 16) (I 17) (I 18) (I 111)) 61) (D.1 + 1)) - 1) else -3) = (if I 111 (0 : Int) = 1 ∧ (0 ≤ (D.2.2.2.1 (i + (1 : Int))) ∧ (D.2.2.2.1 (i + (1 : Int))) ≤ 1) then qruled (pftn (I 103) (I 105) (I 106) (I 101 (23 : Int)) (I 111) (I 120) (I 101 (2 : Int) + 1).toNat) (I 101 (2 : Int)) (D.2.2.2.1 (i + (1 : Int))) else -3) → xR d 264 es_264 10 [xt 2, xr (some 0), xr (some 101), xi (i + (6 : Int))] [] (xsc (xsc (xsc (xsc (xsc (xsc (xsc (xsc I 98 (xup (xup (I 98) (1 : Int) (if I 10 (0 : Int) = 1 ∧ (0 ≤ (D.2.2.2.1 (i + (1 : Int))) ∧ (D.2.2.2.1 (i + (1 : Int))) ≤ 1) then e2739 else I 98 (1 : Int))) (2 : Int) (if I 10 (0 : Int) = 1 ∧ (0 ≤ (D.2.2.2.1 (i + (1 : Int))) ∧ (D.2.2.2.1 (i + (1 : Int))) ≤ 1) then e2740 else I 98 (2 : Int)))) 99 (if I 10 (0 : Int) = 1 ∧ (0 ≤ (D.2.2.2.1 (i + (1 : Int))) ∧ (D.2.2.2.1 (i + (1 : Int))) ≤ 1) then e2741 else (I 99))) 100 (if I 10 (0 : Int) = 1 ∧ (0 ≤ (D.2.2.2.1 (i + (1 : Int))) ∧ (D.2.2.2.1 (i + (1 : Int))) ≤ 1) then e2742 else (I 100))) 101 (xup (xup (I 101) (18 : Int) (if I 111 (0 : Int) = 1 ∧ (0 ≤ (D.2.2.2.1 (i + (1 : Int))) ∧ (D.2.2.2.1 (i + (1 : Int))) ≤ 1) then e2745 else I 101 (18 : Int))) (21 : Int) (if I 111 (0 : Int) = 1 ∧ (0 ≤ (D.2.2.2.1 (i + (1 : Int))) ∧ (D.2.2.2.1 (i + (1 : Int))) ≤ 1) then I 101 (21 : Int) else I 101 (21 : Int)))) 111 (if I 111 (0 : Int) = 1 ∧ (0 ≤ (D.2.2.2.1 (i + (1 : Int))) ∧ (D.2.2.2.1 (i + (1 : Int))) ≤ 1) then (I 111) else (I 111))) 113 (if I 111 (0 : Int) = 1 ∧ (0 ≤ (D.2.2.2.1 (i + (1 : Int))) ∧ (D.2.2.2.1 (i + (1 : Int))) ≤ 1) then e2748 else (I 113))) 120 (if I 111 (0 : Int) = 1 ∧ (0 ≤ (D.2.2.2.1 (i + (1 : Int))) ∧ (D.2.2.2.1 (i + (1 : Int))) ≤ 1) then (pftn (I 103) (I 105) (I 106) (I 101 (23 : Int)) (I 111) (I 120) (I 101 (2 : Int) + 1).toNat) else (I 120))) 121 (if I 111 (0 : Int) = 1 ∧ (0 ≤ (D.2.2.2.1 (i + (1 : Int))) ∧ (D.2.2.2.1 (i + (1 : Int))) ≤ 1) then (pwtn (I 103) (I 105) (I 106) (I 101 (23 : Int)) (I 111) 0 (I 121) (I 101 (2 : Int) + 1).toNat) else (I 121))) (xsc (xsc (xsc (xsc L 21 (if I 10 (0 : Int) = 1 ∧ (0 ≤ (D.2.2.2.1 (i + (1 : Int))) ∧ (D.2.2.2.1 (i + (1 : Int))) ≤ 1) then e2743 else (L 21))) 22 (if I 10 (0 : Int) = 1 ∧ (0 ≤ (D.2.2.2.1 (i + (1 : Int))) ∧ (D.2.2.2.1 (i + (1 : Int))) ≤ 1) then e2744 else (L 22))) 109 (if I 111 (0 : Int) = 1 ∧ (0 ≤ (D.2.2.2.1 (i + (1 : Int))) ∧ (D.2.2.2.1 (i + (1 : Int))) ≤ 1) then e2746 else (L 109))) 110 (if I 111 (0 : Int) = 1 ∧ (0 ≤ (D.2.2.2.1 (i + (1 : Int))) ∧ (D.2.2.2.1 (i + (1 : Int))) ≤ 1) then e2747 else (L 110))) (gG D) c s post) ∧ (¬ (if I 10 (0 : Int) = 1 ∧ (0 ≤ (D.2.2.2.1 (i + (1 : Int))) ∧ (D.2.2.2.1 (i + (1 : Int))) ≤ 1) then (if (D.2.2.2.1 (i + (1 : Int))) = 0 then pbits (cfs (fun f => gfit f (cR (I 127) (I 128) (I 130) (I 131) (I 133) (I 134) (I 136) (I 137) (I 139) (I 140) (I 142) (I 143) D f) (0 : Int) (cvw (I 10) (I 11) (I 12) (I 13) (I 14) (I 16) (I 17) (I 18) (I 111)) 61) (D.1 + 1)) else if (cfs (fun f => gfit f (cR (I 127) (I 128) (I 130) (I 131) (I 133) (I 134) (I 136) (I 137) (I 139) (I 140) (I 142) (I 143) D f) (0 : Int) (cvw (I 10) (I 11) (I 12) (I 13) (I 14) (I 16) (I 17) (I 18) (I 111)) 61) (D.1 + 1)) = 0 then -2 else pntz (cfs (fun f => gfit f (cR (I 127) (I 128) (I 130) (I 131) (I 133) (I 134) (I 136) (I 137) (I 139) (I 140) (I 142) (I 143) D f) (0 : Int) (cvw (I 10) (I 11) (I 12) (I 13) (I 14) (I 16) (I 17) (I 18) (I 111)) 61) (D.1 + 1)) - 1) else -3) = (if I 111 (0 : Int) = 1 ∧ (0 ≤ (D.2.2.2.1 (i + (1 : Int))) ∧ (D.2.2.2.1 (i + (1 : Int))) ≤ 1) then qruled (pftn (I 103) (I 105) (I 106) (I 101 (23 : Int)) (I 111) (I 120) (I 101 (2 : Int) + 1).toNat) (I 101 (2 : Int)) (D.2.2.2.1 (i + (1 : Int))) else -3) → post (some (xi (0 : Int))) (xsc (xsc (xsc (xsc (xsc (xsc (xsc (xsc I 98 (xup (xup (I 98) (1 : Int) (if I 10 (0 : Int) = 1 ∧ (0 ≤ (D.2.2.2.1 (i + (1 : Int))) ∧ (D.2.2.2.1 (i + (1 : Int))) ≤ 1) then e2739 else I 98 (1 : Int))) (2 : Int) (if I 10 (0 : Int) = 1 ∧ (0 ≤ (D.2.2.2.1 (i + (1 : Int))) ∧ (D.2.2.2.1 (i + (1 : Int))) ≤ 1) then e2740 else I 98 (2 : Int)))) 99 (if I 10 (0 : Int) = 1 ∧ (0 ≤ (D.2.2.2.1 (i + (1 : Int))) ∧ (D.2.2.2.1 (i + (1 : Int))) ≤ 1) then e2741 else (I 99))) 100 (if I 10 (0 : Int) = 1 ∧ (0 ≤ (D.2.2.2.1 (i + (1 : Int))) ∧ (D.2.2.2.1 (i + (1 : Int))) ≤ 1) then e2742 else (I 100))) 101 (xup (xup (I 101) (18 : Int) (if I 111 (0 : Int) = 1 ∧ (0 ≤ (D.2.2.2.1 (i + (1 : Int))) ∧ (D.2.2.2.1 (i + (1 : Int))) ≤ 1) then e2745 else I 101 (18 : Int))) (21 : Int) (if I 111 (0 : Int) = 1 ∧ (0 ≤ (D.2.2.2.1 (i + (1 : Int))) ∧ (D.2.2.2.1 (i + (1 : Int))) ≤ 1) then I 101 (21 : Int) else I 101 (21 : Int)))) 111 (if I 111 (0 : Int) = 1 ∧ (0 ≤ (D.2.2.2.1 (i + (1 : Int))) ∧ (D.2.2.2.1 (i + (1 : Int))) ≤ 1) then (I 111) else (I 111))) 113 (if I 111 (0 : Int) = 1 ∧ (0 ≤ (D.2.2.2.1 (i + (1 : Int))) ∧ (D.2.2.2.1 (i + (1 : Int))) ≤ 1) then e2748 else (I 113))) 120 (if I 111 (0 : Int) = 1 ∧ (0 ≤ (D.2.2.2.1 (i + (1 : Int))) ∧ (D.2.2.2.1 (i + (1 : Int))) ≤ 1) then (pftn (I 103) (I 105) (I 106) (I 101 (23 : Int)) (I 111) (I 120) (I 101 (2 : Int) + 1).toNat) else (I 120))) 121 (if I 111 (0 : Int) = 1 ∧ (0 ≤ (D.2.2.2.1 (i + (1 : Int))) ∧ (D.2.2.2.1 (i + (1 : Int))) ≤ 1) then (pwtn (I 103) (I 105) (I 106) (I 101 (23 : Int)) (I 111) 0 (I 121) (I 101 (2 : Int) + 1).toNat) else (I 121))) (xsc (xsc (xsc (xsc L 21 (if I 10 (0 : Int) = 1 ∧ (0 ≤ (D.2.2.2.1 (i + (1 : Int))) ∧ (D.2.2.2.1 (i + (1 : Int))) ≤ 1) then e2743 else (L 21))) 22 (if I 10 (0 : Int) = 1 ∧ (0 ≤ (D.2.2.2.1 (i + (1 : Int))) ∧ (D.2.2.2.1 (i + (1 : Int))) ≤ 1) then e2744 else (L 22))) 109 (if I 111 (0 : Int) = 1 ∧ (0 ≤ (D.2.2.2.1 (i + (1 : Int))) ∧ (D.2.2.2.1 (i + (1 : Int))) ≤ 1) then e2746 else (L 109))) 110 (if I 111 (0 : Int) = 1 ∧ (0 ≤ (D.2.2.2.1 (i + (1 : Int))) ∧ (D.2.2.2.1 (i + (1 : Int))) ≤ 1) then e2747 else (L 110))) (gG D)))))))))) : xR d 264 es_264 614 [xt 2, xr (some 0), xr (some 101), xi i] [] I L (gG D) c s post := sg_264_614  (⟨h.1, (xR_cQ rfl rfl rfl (c_139 h.2.1) (by omega) (fun _ _ _ _ hx2751 => by obtain ⟨e2739, e2740, e2741, e2742, e2743, e2744, rfl, rfl, rfl, rfl⟩ := hx2751; exact (sg_264_621  ⟨h.1, (xR_cQ rfl rfl rfl (c_251 (h.2.2 e2739 e2740 e2741 e2742 e2743 e2744).1) (by omega) (fun _ _ _ _ hx2753 => by obtain ⟨e2745, e2746, e2747, e2748, rfl, rfl, rfl, rfl⟩ := hx2753; exact (sg_264_628  ⟨⟨((h.2.2 e2739 e2740 e2741 e2742 e2743 e2744).2 e2745 e2746 e2747 e2748).1.1, ((h.2.2 e2739 e2740 e2741 e2742 e2743 e2744).2 e2745 e2746 e2747 e2748).1.2⟩, ⟨fun q2749 => (xR_memc (((h.2.2 e2739 e2740 e2741 e2742 e2743 e2744).2 e2745 e2746 e2747 e2748).2.1 q2749) (funext fun i => (xpt rfl (fun h121_ => (xpt rfl (fun h120_ => (xpt rfl (fun h113_ => (xpt rfl (fun h111_ => (xpt rfl (fun h101_ => (xpt rfl (fun h100_ => (xpt rfl (fun h99_ => (xpt rfl (fun h98_ => (by simp only [xsc_ne _ _ h98_, xwr_ne _ _ _ h98_, xsc_ne _ _ h99_, xwr_ne _ _ _ h99_, xsc_ne _ _ h100_, xwr_ne _ _ _ h100_, xsc_ne _ _ h101_, xwr_ne _ _ _ h101_, xsc_ne _ _ h111_, xwr_ne _ _ _ h111_, xsc_ne _ _ h113_, xwr_ne _ _ _ h113_, xsc_ne _ _ h120_, xwr_ne _ _ _ h120_, xsc_ne _ _ h121_, xwr_ne _ _ _ h121_])))))))))))))))))) rfl), fun q2750 => ⟨(by decide), (xpost (((h.2.2 e2739 e2740 e2741 e2742 e2743 e2744).2 e2745 e2746 e2747 e2748).2.2 q2750) (funext fun i => (xpt rfl (fun h121_ => (xpt rfl (fun h120_ => (xpt rfl (fun h113_ => (xpt rfl (fun h111_ => (xpt rfl (fun h101_ => (xpt rfl (fun h100_ => (xpt rfl (fun h99_ => (xpt rfl (fun h98_ => (by simp only [xsc_ne _ _ h98_, xwr_ne _ _ _ h98_, xsc_ne _ _ h99_, xwr_ne _ _ _ h99_, xsc_ne _ _ h100_, xwr_ne _ _ _ h100_, xsc_ne _ _ h101_, xwr_ne _ _ _ h101_, xsc_ne _ _ h111_, xwr_ne _ _ _ h111_, xsc_ne _ _ h113_, xwr_ne _ _ _ h113_, xsc_ne _ _ h120_, xwr_ne _ _ _ h120_, xsc_ne _ _ h121_, xwr_ne _ _ _ h121_])))))))))))))))))) rfl)⟩⟩⟩)))⟩)))⟩)
theorem ls_26 {I : XI} {L : XL} {D : GD} {d c s : Nat} {post : XQ} {i : Int} (hd : 9 ≤ d) (hi : 0 ≤ i ∧ i + 6 ≤ (D.2.2.2.2 : Int)) (hsc : ∀ j, xrg (D.2.2.2.1 j)) (hr : REL I D) (hc : ∀ I2 L2, REL I2 D → xR d 264 es_264 10 [xt 2, xr (some 0), xr (some 101), xi (i + 6)] [] I2 L2 (gG D) c s post) : xR d 264 es_264 614 [xt 2, xr (some 0), xr (some 101), xi i] [] I L (gG D) c s post := by
  have hrr := hr.rr
  obtain ⟨h1, h2, h3, h4, h5, h6, ⟨h70, h71, h72, h73⟩, h8⟩ := hr
  have hC := h2.2.1
  have hn := hC.n
  have hg := hC.g
  have htn := hC.turn
  have s1 := hsc (i + 1)
  have s2 := hsc (i + 2)
  have s3 := hsc (i + 3)
  have s4 := hsc (i + 4)
  have hrow := h2.1
  have e0 : I 111 0 = I 10 0 := congrFun hrow 0
  have e1 : I 111 1 = I 16 1 := congrFun hrow 1
  have e2 : I 111 2 = I 10 2 := congrFun hrow 2
  have e3 : I 111 3 = I 10 3 := congrFun hrow 3
  have e4 : I 111 4 = I 10 4 := congrFun hrow 4
  have e10 : I 111 10 = I 16 2 := congrFun hrow 10
  have hS : SO (I 111) := by rw [hrow]; exact hC.1
  have ef : I 101 21 = I 6 2 := h3.2.2.2.1.symm
  have ers : I 101 2 = (D.1 : Int) := h3.2.1
  have erc : I 0 4 = (D.1 : Int) := h3.1
  have hD := h3.2.2.1
  have hfr := h3.2.2.2.2.1
  have ht9 := h2.2.2.1
  have hf0 := hC.f
  have hRf := h3.2.2.2.2.2.1 (I 6 2) hfr.1 hfr.2
  have hRO : RO (I 103) (I 105) (I 106) (I 101 21) := by rw [ef]; exact h3.2.2.2.2.2.2.1 (I 6 2) hfr.1 hfr.2
  have hRO2 : RO (I 103) (I 105) (I 106) (I 6 2) := h3.2.2.2.2.2.2.1 (I 6 2) hfr.1 hfr.2
  have ekk : I 101 23 = 0 := h5.2.2
  have ex : I 101 22 = I 6 3 := h4.1.symm
  have hx := h4.2
  have etp : I 101 1 = I 1 6 := h1.1.symm
  have htp := h1.2.1
  have eun : I 101 25 = I 88 0 := h6.1.symm
  have hun := h6.2.1
  have hnx := h6.2.2.1
  refine lw_26 (by omega) ?_
  have hR3 := h3.2.2.2.2.2.2.2
  have hCR := h3.2.2.2.2.2.1
  have hRA := h3.2.2.2.2.2.2.1
  have hN := h5.1
  have hNO := h5.2.1
  have hfst := h2.2.2.2
  obtain ⟨h81, h82, h83, h84⟩ := h8
  simp only [← hrow, e0, ers, ekk]
  have hF : ∀ i : Int, 0 ≤ i → i ≤ (D.1 : Int) → pftn (I 103) (I 105) (I 106) 0 (I 111) (I 120) ((D.1 : Int) + 1).toNat i = if (fun f => gfit f ((cR (I 127) (I 128) (I 130) (I 131) (I 133) (I 134) (I 136) (I 137) (I 139) (I 140) (I 142) (I 143) D f)) (0 : Int) (I 111) 61) (i - 1) = true then 1 else 0 := by
    intro i i0 i1
    rw [pftn_at _ i i0 (by omega), pfitn_g]
    show xb _ = if gfit (i - 1) ((cR (I 127) (I 128) (I 130) (I 131) (I 133) (I 134) (I 136) (I 137) (I 139) (I 140) (I 142) (I 143) D (i - 1))) 0 (I 111) 61 = true then 1 else 0
    rw [gfit_c (R := (cR (I 127) (I 128) (I 130) (I 131) (I 133) (I 134) (I 136) (I 137) (I 139) (I 140) (I 142) (I 143) D (i - 1))) (R2 := pR (I 103) (I 105) (I 106) (i - 1)) (by
      by_cases q : i - 1 < 0
      · exact Or.inl q
      · exact Or.inr (hR3 _ (by omega) (by omega)))]
    rfl
  have eq := ruled_eq (G := fun f => gfit f ((cR (I 127) (I 128) (I 130) (I 131) (I 133) (I 134) (I 136) (I 137) (I 139) (I 140) (I 142) (I 143) D f)) (0 : Int) (I 111) 61) (n := D.1) hD hF (D.2.2.2.1 (i + 1))
  have hfi := cfs_rg (fun f => gfit f ((cR (I 127) (I 128) (I 130) (I 131) (I 133) (I 134) (I 136) (I 137) (I 139) (I 140) (I 142) (I 143) D f)) (0 : Int) (I 111) 61) (n := D.1 + 1) (by omega)
  have hrg := ruled_rg (w := (D.2.2.2.1 (i + 1))) hfi.1 hfi.2
  rw [eq] at hrg
  by_cases hq : I 10 0 = 1 ∧ (0 ≤ (D.2.2.2.1 (i + 1)) ∧ (D.2.2.2.1 (i + 1)) ≤ 1)
  · simp only [if_pos hq, eq]
    repeat' first | (with_reducible intro _) | (with_reducible refine And.intro ?_ ?_)
    all_goals first | omega | assumption | exact hRf | exact hC | exact hRO2 | (exact absurd rfl (by assumption)) | (exact absurd trivial (by assumption)) | skip
    all_goals first | exact hN | exact hNO | (exact hCR _ (by assumption) (by assumption)) | (exact hRA _ (by assumption) (by assumption)) | exact h81 _ | exact (h82 _).1 | exact (h82 _).2 | skip
    exact hc _ _ ⟨h1, h2, h3, h4, h5, h6, ⟨h70, h71, h72, h73⟩, ⟨pftn_01 h81 _, pwtn_rg hS (by decide) h82 _, h83, h84⟩⟩
  · simp only [if_neg hq]
    repeat' first | (with_reducible intro _) | (with_reducible refine And.intro ?_ ?_)
    all_goals first | omega | assumption | exact hRf | exact hC | exact hRO2 | (exact absurd rfl (by assumption)) | (exact absurd trivial (by assumption)) | skip
    all_goals first | exact hN | exact hNO | (exact hCR _ (by assumption) (by assumption)) | (exact hRA _ (by assumption) (by assumption)) | exact h81 _ | exact (h82 _).1 | exact (h82 _).2 | skip
    exact hc _ _ ⟨h1, h2, h3, h4, h5, h6, ⟨h70, h71, h72, h73⟩, ⟨h81, h82, h83, h84⟩⟩
