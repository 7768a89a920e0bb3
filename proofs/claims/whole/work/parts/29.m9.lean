def pleft (f : Int) (R : (Int → Int64) → Int64) (kk : Int) : Nat → (Int → Int) → Int
  | 0, _ => -2
  | n + 1, a => if pslices a (-1) = 0 then a 10 else pleft f R kk n (ppass f R kk a)
theorem pleft_pos {f : Int} {R : (Int → Int64) → Int64} {kk : Int} {n : Nat} {a : Int → Int} (hn : 0 < n) (h : pslices a (-1) = 0) : pleft f R kk n a = a 10 := by
  obtain ⟨m, rfl⟩ : ∃ m, n = m + 1 := ⟨n - 1, by omega⟩
  unfold pleft
  rw [if_pos h]
theorem pleft_neg {f : Int} {R : (Int → Int64) → Int64} {kk : Int} {n : Nat} {a : Int → Int} (hn : 0 < n) (h : ¬ pslices a (-1) = 0) : pleft f R kk n a = pleft f R kk (n - 1) (ppass f R kk a) := by
  obtain ⟨m, rfl⟩ : ∃ m, n = m + 1 := ⟨n - 1, by omega⟩
  rw [pleft, if_neg h]
  rfl
set_option maxRecDepth 8000 in
theorem sg_224_0 {d : Nat} {I : XI} {L : XL} {D : GD} {post : XQ}   (h : xR d 224 es_224 1 [xr (some 101), xt 0, xt 0] [xr (some 101)] I L (gG D) 0 0 post) : xR d 224 es_224 0 [xr (some 101), xt 0, xt 0] [] I L (gG D) 0 0 post := xW_R (fun k => Nat.beq k 1 || Nat.beq k 8 || Nat.beq k 11 || Nat.beq k 18 || Nat.beq k 26 || Nat.beq k 31) 1 _ _ _ _ _ _ _ _ _ _ _ _ h
set_option maxRecDepth 8000 in
theorem sg_224_2 {d : Nat} {I : XI} {L : XL} {D : GD} {post : XQ}  {w0 : Int} (h : ((-2147483648 ≤ w0 ∧ w0 ≤ 2147483647) ∧ ((¬ w0 = 0 → xR d 224 es_224 8 [xr (some 101), xi (-2 : Int), xt 0] [xr (some 101)] I L (gG D) 0 0 post) ∧ (w0 = 0 → post (some (xi (-1 : Int))) I L (gG D))))) : xR d 224 es_224 2 [xr (some 101), xt 0, xt 0] [xi w0] I L (gG D) 0 0 post := xW_R (fun k => Nat.beq k 1 || Nat.beq k 8 || Nat.beq k 11 || Nat.beq k 18 || Nat.beq k 26 || Nat.beq k 31) 4 _ _ _ _ _ _ _ _ _ _ _ _ h
set_option maxRecDepth 8000 in
theorem sg_224_9 {d : Nat} {I : XI} {L : XL} {D : GD} {post : XQ}  {u1 : Int} (h : xR d 224 es_224 11 [xr (some 101), xi u1, xi (0 : Int)] [] I L (gG D) 0 0 post) : xR d 224 es_224 9 [xr (some 101), xi u1, xt 0] [] I L (gG D) 0 0 post := xW_R (fun k => Nat.beq k 1 || Nat.beq k 8 || Nat.beq k 11 || Nat.beq k 18 || Nat.beq k 26 || Nat.beq k 31) 2 _ _ _ _ _ _ _ _ _ _ _ _ h
set_option maxRecDepth 8000 in
theorem w_224 {d : Nat} {I : XI} {L : XL} {D : GD} {post : XQ}    (hd : 1 ≤ d) (h : (SO (I 111) ∧ (((I 111 (0 : Int) = 1 → xR d 224 es_224 11 [xr (some 101), xi (-2 : Int), xi (0 : Int)] [] (xsc I 113 (xcp (I 111) (I 113) 10 0 16)) L (gG D) 0 0 post) ∧ (¬ (I 111 (0 : Int) = 1) → post (some (xi (-1 : Int))) I L (gG D)))))) : xR d 224 es_224 0 [xr (some 101), xt 0, xt 0] [] I L (gG D) 0 0 post := sg_224_0  ((xR_cF rfl rfl rfl (c_192 h.1) (by omega) (sg_224_2  ⟨(xb_rg _), ⟨fun q352 => (xR_cF rfl rfl rfl c_220 (by omega) (sg_224_9  (h.2.1 (xb_n0 q352)))), fun q353 => (h.2.2 (xb_0 q353))⟩⟩)))
set_option maxRecDepth 8000 in
theorem sg_224_11 {d : Nat} {I : XI} {L : XL} {D : GD} {post : XQ}  {u1 : Int} {u2 : Int} (h : (((-2147483648 ≤ u2 ∧ u2 ≤ 2147483647) ∧ (-2147483648 ≤ (100 : Int) ∧ (100 : Int) ≤ 2147483647)) ∧ (((100 : Int) ≤ u2 → xR d 224 es_224 31 [xr (some 101), xi u1, xi u2] [xr (some 101)] I L (gG D) 0 0 post) ∧ (u2 < (100 : Int) → ((-2147483648 ≤ u1 ∧ u1 ≤ 2147483647) ∧ ((0 ≤ u1 → xR d 224 es_224 31 [xr (some 101), xi u1, xi u2] [xr (some 101)] I L (gG D) 0 0 post) ∧ (u1 < 0 → xR d 224 es_224 18 [xr (some 101), xi u1, xi u2] [xi (-1 : Int), xr (some 101)] I L (gG D) 0 0 post))))))) : xR d 224 es_224 11 [xr (some 101), xi u1, xi u2] [] I L (gG D) 0 0 post := xW_R (fun k => Nat.beq k 1 || Nat.beq k 8 || Nat.beq k 11 || Nat.beq k 18 || Nat.beq k 26 || Nat.beq k 31) 7 _ _ _ _ _ _ _ _ _ _ _ _ h
set_option maxRecDepth 8000 in
theorem sg_224_32 {d : Nat} {I : XI} {L : XL} {D : GD} {post : XQ}  {u1 : Int} {u2 : Int} (h : post (some (xi u1)) I L (gG D)) : xR d 224 es_224 32 [xr (some 101), xi u1, xi u2] [] I L (gG D) 0 0 post := xW_R (fun k => Nat.beq k 1 || Nat.beq k 8 || Nat.beq k 11 || Nat.beq k 18 || Nat.beq k 26 || Nat.beq k 31) 2 _ _ _ _ _ _ _ _ _ _ _ _ h
set_option maxRecDepth 8000 in
theorem sg_224_19 {d : Nat} {I : XI} {L : XL} {D : GD} {post : XQ}  {u1 : Int} {u2 : Int} {w0 : Int} (h : ((-2147483648 ≤ w0 ∧ w0 ≤ 2147483647) ∧ ((¬ w0 = 0 → xR d 224 es_224 26 [xr (some 101), xi u1, xi u2] [xr (some 101)] I L (gG D) 0 0 post) ∧ (w0 = 0 → ((0 ≤ (10 : Int) ∧ (10 : Int) < (102 : Int)) ∧ xR d 224 es_224 26 [xr (some 101), xi (I 111 (10 : Int)), xi u2] [xr (some 101)] I L (gG D) 0 0 post))))) : xR d 224 es_224 19 [xr (some 101), xi u1, xi u2] [xi w0] I L (gG D) 0 0 post := xW_R (fun k => Nat.beq k 1 || Nat.beq k 8 || Nat.beq k 11 || Nat.beq k 18 || Nat.beq k 26 || Nat.beq k 31) 7 _ _ _ _ _ _ _ _ _ _ _ _ h
set_option maxRecDepth 8000 in
theorem sg_224_27 {d : Nat} {I : XI} {L : XL} {D : GD} {post : XQ}  {u1 : Int} {u2 : Int} {w0 : Int} (h : xR d 224 es_224 11 [xr (some 101), xi u1, xi (u2 + (1 : Int))] [] I L (gG D) 0 0 post) : xR d 224 es_224 27 [xr (some 101), xi u1, xi u2] [xi w0] I L (gG D) 0 0 post := xW_R (fun k => Nat.beq k 1 || Nat.beq k 8 || Nat.beq k 11 || Nat.beq k 18 || Nat.beq k 26 || Nat.beq k 31) 3 _ _ _ _ _ _ _ _ _ _ _ _ h
set_option maxRecDepth 8000 in
theorem b_224 {d : Nat} {I : XI} {L : XL} {D : GD} {post : XQ} {tp : Int} {K W : Int → Int64} {rw_ kp : Int → Int}  {an : Int} {i0 : Int} (hd : 7 ≤ d) (h : (((-2147483648 ≤ i0 ∧ i0 ≤ 2147483647)) ∧ (((100 : Int) ≤ i0 → post (some (xi an)) (xsc (xsc (xsc I 101 (xup (I 101) (18 : Int) tp)) 111 (xcp kp rw_ 0 10 16)) 113 kp) (xsc (xsc L 109 K) 110 W) (gG D)) ∧ (i0 < (100 : Int) → (((-2147483648 ≤ an ∧ an ≤ 2147483647)) ∧ ((0 ≤ an → post (some (xi an)) (xsc (xsc (xsc I 101 (xup (I 101) (18 : Int) tp)) 111 (xcp kp rw_ 0 10 16)) 113 kp) (xsc (xsc L 109 K) 110 W) (gG D)) ∧ (an < 0 → ((SO rw_ ∧ (-2147483648 ≤ (-1 : Int) ∧ (-1 : Int) ≤ 2147483647)) ∧ (((-2147483648 ≤ (pslices rw_ (-1 : Int)) ∧ (pslices rw_ (-1 : Int)) ≤ 2147483647)) ∧ ((¬ (pslices rw_ (-1 : Int)) = 0 → ((SO rw_ ∧ rw_ (10 : Int) < 2000 ∧ RO (I 103) (I 105) (I 106) (I 101 (21 : Int))) ∧ (∀ (e354 : Int) (e355 : Int → Int64) (e356 : Int → Int64), xR d 224 es_224 11 [xr (some 101), xi an, xi (i0 + (1 : Int))] [] (xsc (xsc (xsc I 101 (xup (I 101) (18 : Int) e354)) 111 (ppass (I 101 (21 : Int)) (pR (I 103) (I 105) (I 106) (I 101 (21 : Int))) (I 101 (23 : Int)) rw_ )) 113 kp) (xsc (xsc L 109 e355) 110 e356) (gG D) 0 0 post))) ∧ ((pslices rw_ (-1 : Int)) = 0 → ((SO rw_ ∧ rw_ (10 : Int) < 2000 ∧ RO (I 103) (I 105) (I 106) (I 101 (21 : Int))) ∧ (∀ (e357 : Int) (e358 : Int → Int64) (e359 : Int → Int64), xR d 224 es_224 11 [xr (some 101), xi (rw_ (10 : Int)), xi (i0 + (1 : Int))] [] (xsc (xsc (xsc I 101 (xup (I 101) (18 : Int) e357)) 111 (ppass (I 101 (21 : Int)) (pR (I 103) (I 105) (I 106) (I 101 (21 : Int))) (I 101 (23 : Int)) rw_ )) 113 kp) (xsc (xsc L 109 e358) 110 e359) (gG D) 0 0 post))))))))))))) : xR d 224 es_224 11 [xr (some 101), xi an, xi i0] [] (xsc (xsc (xsc I 101 (xup (I 101) (18 : Int) tp)) 111 rw_) 113 kp) (xsc (xsc L 109 K) 110 W) (gG D) 0 0 post := sg_224_11  (⟨⟨h.1, (by decide)⟩, ⟨fun q364 => (xR_cF rfl rfl rfl c_221 (by omega) (sg_224_32  (xpost (h.2.1 q364) (funext fun i => (xpt rfl (fun h113_ => (xpt rfl (fun h111_ => (xpt rfl (fun h101_ => (by simp only [xsc_ne _ _ h101_, xwr_ne _ _ _ h101_, xsc_ne _ _ h111_, xwr_ne _ _ _ h111_, xsc_ne _ _ h113_, xwr_ne _ _ _ h113_])))))))) rfl))), fun q365 => ⟨(h.2.2 q365).1, ⟨fun q362 => (xR_cF rfl rfl rfl c_221 (by omega) (sg_224_32  (xpost ((h.2.2 q365).2.1 q362) (funext fun i => (xpt rfl (fun h113_ => (xpt rfl (fun h111_ => (xpt rfl (fun h101_ => (by simp only [xsc_ne _ _ h101_, xwr_ne _ _ _ h101_, xsc_ne _ _ h111_, xwr_ne _ _ _ h111_, xsc_ne _ _ h113_, xwr_ne _ _ _ h113_])))))))) rfl))), fun q363 => (xR_cF rfl rfl rfl (c_197 ((h.2.2 q365).2.2 q363).1) (by omega) (sg_224_19  ⟨((h.2.2 q365).2.2 q363).2.1, ⟨fun q360 => (xR_cQ rfl rfl rfl (c_210 (((h.2.2 q365).2.2 q363).2.2.1 q360).1) (by omega) (fun _ _ _ _ hx366 => by obtain ⟨e354, e355, e356, rfl, rfl, rfl, rfl⟩ := hx366; exact (sg_224_27  (xR_memc ((((h.2.2 q365).2.2 q363).2.2.1 q360).2 e354 e355 e356) (funext fun i => (xpt rfl (fun h113_ => (xpt rfl (fun h111_ => (xpt (show (xup (xup (I 101) (18 : Int) tp) (18 : Int) e354) = (xup (I 101) (18 : Int) e354) from by funext j; simp only [xup]; (repeat' split) <;> first | rfl | omega) (fun h101_ => (by simp only [xsc_ne _ _ h101_, xwr_ne _ _ _ h101_, xsc_ne _ _ h111_, xwr_ne _ _ _ h111_, xsc_ne _ _ h113_, xwr_ne _ _ _ h113_])))))))) (funext fun i => (xpt rfl (fun h110_ => (xpt rfl (fun h109_ => (by simp only [xsc_ne _ _ h109_, xwr_ne _ _ _ h109_, xsc_ne _ _ h110_, xwr_ne _ _ _ h110_])))))))))), fun q361 => ⟨(by decide), (xR_cQ rfl rfl rfl (c_210 (((h.2.2 q365).2.2 q363).2.2.2 q361).1) (by omega) (fun _ _ _ _ hx368 => by obtain ⟨e357, e358, e359, rfl, rfl, rfl, rfl⟩ := hx368; exact (sg_224_27  (xR_memc ((((h.2.2 q365).2.2 q363).2.2.2 q361).2 e357 e358 e359) (funext fun i => (xpt rfl (fun h113_ => (xpt rfl (fun h111_ => (xpt (show (xup (xup (I 101) (18 : Int) tp) (18 : Int) e357) = (xup (I 101) (18 : Int) e357) from by funext j; simp only [xup]; (repeat' split) <;> first | rfl | omega) (fun h101_ => (by simp only [xsc_ne _ _ h101_, xwr_ne _ _ _ h101_, xsc_ne _ _ h111_, xwr_ne _ _ _ h111_, xsc_ne _ _ h113_, xwr_ne _ _ _ h113_])))))))) (funext fun i => (xpt rfl (fun h110_ => (xpt rfl (fun h109_ => (by simp only [xsc_ne _ _ h109_, xwr_ne _ _ _ h109_, xsc_ne _ _ h110_, xwr_ne _ _ _ h110_]))))))))))⟩⟩⟩))⟩⟩⟩⟩)
theorem c_224 {I : XI} {L : XL} {D : GD}    (h : (SO (I 111) ∧ I 111 (10 : Int) ≤ 1000 ∧ RO (I 103) (I 105) (I 106) (I 101 (21 : Int)))) : xM 7 224 [xr (some 101)] I L (gG D) (0, 0) (fun r2 I2 L2 G2 => ∃ (tp : Int) (K : Int → Int64) (W : Int → Int64) (kp : Int → Int), r2 = (some (xi (if I 111 (0 : Int) = 1 then pleft (I 101 (21 : Int)) (pR (I 103) (I 105) (I 106) (I 101 (21 : Int))) (I 101 (23 : Int)) 100 (I 111) else -1))) ∧ I2 = (xsc (xsc (xsc I 101 (xup (I 101) (18 : Int) (if I 111 (0 : Int) = 1 then tp else I 101 (18 : Int)))) 111 (if I 111 (0 : Int) = 1 then (I 111) else (I 111))) 113 (if I 111 (0 : Int) = 1 then kp else (I 113))) ∧ L2 = (xsc (xsc L 109 (if I 111 (0 : Int) = 1 then K else (L 109))) 110 (if I 111 (0 : Int) = 1 then W else (L 110))) ∧ G2 = (gG D)) := by
  intro d hd
  obtain ⟨hS, ht, hR⟩ := h
  have hn := hS.n
  have hg := hS.g
  have hf := hS.f
  have h10 := hS.turn
  refine w_224 (by omega) ?_
  by_cases hc : I 111 (0 : Int) = 1
  · simp only [if_pos hc]
    have key : ∀ k : Nat, k ≤ 100 → ∀ (tp : Int) (K : Int → Int64) (W : Int → Int64), pleft (I 101 21) (pR (I 103) (I 105) (I 106) (I 101 21)) (I 101 23) 100 (I 111) = pleft (I 101 21) (pR (I 103) (I 105) (I 106) (I 101 21)) (I 101 23) (100 - k) (ppassn (I 101 21) (pR (I 103) (I 105) (I 106) (I 101 21)) (I 101 23) k (I 111)) → xR d 224 es_224 11 [xr (some 101), xi (-2), xi (k : Int)] [] (xsc (xsc (xsc I 101 (xup (I 101) (18 : Int) tp)) 111 (ppassn (I 101 21) (pR (I 103) (I 105) (I 106) (I 101 21)) (I 101 23) k (I 111))) 113 (xcp (I 111) (I 113) 10 0 16)) (xsc (xsc L 109 K) 110 W) (gG D) 0 0 (fun r2 I2 L2 G2 => ∃ (tp : Int) (K : Int → Int64) (W : Int → Int64) (kp : Int → Int), r2 = some (xi (pleft (I 101 21) (pR (I 103) (I 105) (I 106) (I 101 21)) (I 101 23) 100 (I 111))) ∧ I2 = (xsc (xsc (xsc I 101 (xup (I 101) (18 : Int) tp)) 111 (I 111)) 113 kp) ∧ L2 = (xsc (xsc L 109 K) 110 W) ∧ G2 = gG D) := by
      refine xfor ?_ ?_
      · intro tp K W hy
        have lb := lays_back (b := ppassn (I 101 21) (pR (I 103) (I 105) (I 106) (I 101 21)) (I 101 23) (100) (I 111)) (c := I 113) (fun j hj => ppassn_out (f := (I 101 21)) (R := (pR (I 103) (I 105) (I 106) (I 101 21))) (kk := (I 101 23)) hS (j := j) (by omega) (100) (by omega))
        refine b_224 (by omega) ?_
        repeat' first | (with_reducible intro _) | (with_reducible refine And.intro ?_ ?_)
        all_goals first | omega | assumption | skip
        rw [lb]
        exact ⟨_, _, _, _, by rw [hy]; rfl, rfl, rfl, rfl⟩
      · intro k hk ih tp K W hy
        have hT := ppassn_turn (f := (I 101 21)) (R := (pR (I 103) (I 105) (I 106) (I 101 21))) (kk := (I 101 23)) (a := I 111) k
        have hS2 := SO_passn (f := (I 101 21)) (R := (pR (I 103) (I 105) (I 106) (I 101 21))) (kk := (I 101 23)) hS k (by omega)
        have hG : SO (ppassn (I 101 21) (pR (I 103) (I 105) (I 106) (I 101 21)) (I 101 23) k (I 111)) ∧ (ppassn (I 101 21) (pR (I 103) (I 105) (I 106) (I 101 21)) (I 101 23) k (I 111)) 10 < 2000 ∧ RO (I 103) (I 105) (I 106) (I 101 21) := ⟨hS2, by omega, hR⟩
        have hG1 : SO (ppassn (I 101 21) (pR (I 103) (I 105) (I 106) (I 101 21)) (I 101 23) k (I 111)) ∧ (-2147483648 ≤ (-1 : Int) ∧ (-1 : Int) ≤ 2147483647) := ⟨hS2, by decide⟩
        have hb := pslices_rg hS2 (-1)
        have lb := lays_back (b := ppassn (I 101 21) (pR (I 103) (I 105) (I 106) (I 101 21)) (I 101 23) (k + 1) (I 111)) (c := I 113) (fun j hj => ppassn_out (f := (I 101 21)) (R := (pR (I 103) (I 105) (I 106) (I 101 21))) (kk := (I 101 23)) hS (j := j) (by omega) (k + 1) (by omega))
        refine b_224 (by omega) ?_
        repeat' first | (with_reducible intro _) | (with_reducible refine And.intro ?_ ?_)
        all_goals first | omega | assumption | skip
        all_goals first
          | (have hz : pslices (ppassn (I 101 21) (pR (I 103) (I 105) (I 106) (I 101 21)) (I 101 23) k (I 111)) (-1) = 0 := by assumption
             refine b_224 (by omega) ?_
             repeat' first | (with_reducible intro _) | (with_reducible refine And.intro ?_ ?_)
             all_goals first | omega | assumption | skip
             all_goals (rw [show ppass (I 101 21) (pR (I 103) (I 105) (I 106) (I 101 21)) (I 101 23) (ppassn (I 101 21) (pR (I 103) (I 105) (I 106) (I 101 21)) (I 101 23) k (I 111)) = ppassn (I 101 21) (pR (I 103) (I 105) (I 106) (I 101 21)) (I 101 23) (k + 1) (I 111) from rfl, lb]; exact ⟨_, _, _, _, by rw [hy, pleft_pos (by omega) hz], rfl, rfl, rfl⟩))
          | (have hz : ¬ pslices (ppassn (I 101 21) (pR (I 103) (I 105) (I 106) (I 101 21)) (I 101 23) k (I 111)) (-1) = 0 := by assumption
             exact ih _ _ _ (by rw [hy, pleft_neg (by omega) hz]; rfl))
    repeat' first | (with_reducible intro _) | (with_reducible refine And.intro ?_ ?_)
    all_goals first | omega | assumption | exact ⟨_, _, _, _, (by first | rfl | trivial), (by first | rfl | trivial), (by first | rfl | trivial), (by first | rfl | trivial)⟩ | skip
    exact xR_memc (key 0 (Nat.zero_le _) (I 101 18) (L 109) (L 110) rfl) (by (funext i; by_cases h101 : i = 101; (subst h101; first | rfl | exact (xcp_zero _ _ _ _).symm | exact (xup_self _ _).symm | exact (xup_self2 _ _ _).symm | exact (xup_self3 _ _ _ _).symm | exact xup_self _ _); by_cases h111 : i = 111; (subst h111; first | rfl | exact (xcp_zero _ _ _ _).symm | exact (xup_self _ _).symm | exact (xup_self2 _ _ _).symm | exact (xup_self3 _ _ _ _).symm | exact xup_self _ _); by_cases h113 : i = 113; (subst h113; first | rfl | exact (xcp_zero _ _ _ _).symm | exact (xup_self _ _).symm | exact (xup_self2 _ _ _).symm | exact (xup_self3 _ _ _ _).symm | exact xup_self _ _); first | rfl | simp only [xsc_ne _ _ h101, xsc_ne _ _ h111, xsc_ne _ _ h113])) (by (funext i; by_cases h109 : i = 109; (subst h109; first | rfl | exact (xcp_zero _ _ _ _).symm | exact (xup_self _ _).symm | exact (xup_self2 _ _ _).symm | exact (xup_self3 _ _ _ _).symm | exact xup_self _ _); by_cases h110 : i = 110; (subst h110; first | rfl | exact (xcp_zero _ _ _ _).symm | exact (xup_self _ _).symm | exact (xup_self2 _ _ _).symm | exact (xup_self3 _ _ _ _).symm | exact xup_self _ _); first | rfl | simp only [xsc_ne _ _ h109, xsc_ne _ _ h110]))
  · simp only [if_neg hc]
    repeat' first | (with_reducible intro _) | (with_reducible refine And.intro ?_ ?_)
    all_goals first | omega | assumption | (exact ⟨I 101 18, L 109, L 110, I 113, (by first | rfl | trivial), (by (funext i; by_cases h101 : i = 101; (subst h101; first | rfl | exact (xcp_zero _ _ _ _).symm | exact (xup_self _ _).symm | exact (xup_self2 _ _ _).symm | exact (xup_self3 _ _ _ _).symm | exact xup_self _ _); by_cases h111 : i = 111; (subst h111; first | rfl | exact (xcp_zero _ _ _ _).symm | exact (xup_self _ _).symm | exact (xup_self2 _ _ _).symm | exact (xup_self3 _ _ _ _).symm | exact xup_self _ _); by_cases h113 : i = 113; (subst h113; first | rfl | exact (xcp_zero _ _ _ _).symm | exact (xup_self _ _).symm | exact (xup_self2 _ _ _).symm | exact (xup_self3 _ _ _ _).symm | exact xup_self _ _); first | rfl | simp only [xsc_ne _ _ h101, xsc_ne _ _ h111, xsc_ne _ _ h113])), (by (funext i; by_cases h109 : i = 109; (subst h109; first | rfl | exact (xcp_zero _ _ _ _).symm | exact (xup_self _ _).symm | exact (xup_self2 _ _ _).symm | exact (xup_self3 _ _ _ _).symm | exact xup_self _ _); by_cases h110 : i = 110; (subst h110; first | rfl | exact (xcp_zero _ _ _ _).symm | exact (xup_self _ _).symm | exact (xup_self2 _ _ _).symm | exact (xup_self3 _ _ _ _).symm | exact xup_self _ _); first | rfl | simp only [xsc_ne _ _ h109, xsc_ne _ _ h110])), (by first | rfl | trivial)⟩) | skip
def pen1 (a : Int → Int) (g : Int) : Nat → Int → Int
  | 0, set => set
  | n + 1, set => if phas a g < pworths a g (pslices a (n : Int)) then xior (pen1 a g n set) (xshl 1 g) else pen1 a g n set
def peno (a : Int → Int) : Nat → Int
  | 0 => 0
  | n + 1 => pen1 a (n : Int) (a 4).toNat (peno a n)
def qenvy (a : Int → Int) : Int := peno a (a 4).toNat
theorem pworths_rg {a : Int → Int} (h : SO a) {g set : Int} (g0 : 0 ≤ g) (g1 : g < 5) : 0 ≤ pworths a g set ∧ pworths a g set ≤ 810 := by
  have hn := h.n
  have := pws_rg h g0 g1 (set := set) (a 3).toNat (by omega)
  unfold pworths
  omega
set_option maxRecDepth 8000 in
theorem sg_225_0 {d : Nat} {I : XI} {L : XL} {D : GD} {post : XQ}   (h : xR d 225 es_225 1 [xr (some 101), xt 0, xt 0, xt 0] [xr (some 101)] I L (gG D) 0 0 post) : xR d 225 es_225 0 [xr (some 101), xt 0, xt 0, xt 0] [] I L (gG D) 0 0 post := xW_R (fun k => Nat.beq k 1 || Nat.beq k 9 || Nat.beq k 17 || Nat.beq k 27 || Nat.beq k 28 || Nat.beq k 31) 1 _ _ _ _ _ _ _ _ _ _ _ _ h
set_option maxRecDepth 8000 in
theorem sg_225_2 {d : Nat} {I : XI} {L : XL} {D : GD} {post : XQ}  {w0 : Int} (h : ((-2147483648 ≤ w0 ∧ w0 ≤ 2147483647) ∧ ((¬ w0 = 0 → xR d 225 es_225 9 [xr (some 101), xi (0 : Int), xi (0 : Int), xt 0] [] I L (gG D) 0 0 post) ∧ (w0 = 0 → post (some (xi (-1 : Int))) I L (gG D))))) : xR d 225 es_225 2 [xr (some 101), xt 0, xt 0, xt 0] [xi w0] I L (gG D) 0 0 post := xW_R (fun k => Nat.beq k 1 || Nat.beq k 9 || Nat.beq k 17 || Nat.beq k 27 || Nat.beq k 28 || Nat.beq k 31) 5 _ _ _ _ _ _ _ _ _ _ _ _ h
set_option maxRecDepth 8000 in
theorem w_225 {d : Nat} {I : XI} {L : XL} {D : GD} {post : XQ}    (hd : 1 ≤ d) (h : (SO (I 111) ∧ (((I 111 (0 : Int) = 1 → xR d 225 es_225 9 [xr (some 101), xi (0 : Int), xi (0 : Int), xt 0] [] I L (gG D) 0 0 post) ∧ (¬ (I 111 (0 : Int) = 1) → post (some (xi (-1 : Int))) I L (gG D)))))) : xR d 225 es_225 0 [xr (some 101), xt 0, xt 0, xt 0] [] I L (gG D) 0 0 post := sg_225_0  ((xR_cF rfl rfl rfl (c_192 h.1) (by omega) (sg_225_2  ⟨(xb_rg _), ⟨fun q370 => (h.2.1 (xb_n0 q370)), fun q371 => (h.2.2 (xb_0 q371))⟩⟩)))
set_option maxRecDepth 8000 in
theorem sg_225_9 {d : Nat} {I : XI} {L : XL} {D : GD} {post : XQ}  {u1 : Int} {u2 : Int} {u3 : XV} (h : ((0 ≤ (4 : Int) ∧ (4 : Int) < (102 : Int)) ∧ (((-2147483648 ≤ u2 ∧ u2 ≤ 2147483647) ∧ (-2147483648 ≤ (I 111 (4 : Int)) ∧ (I 111 (4 : Int)) ≤ 2147483647)) ∧ (((I 111 (4 : Int)) ≤ u2 → post (some (xi u1)) I L (gG D)) ∧ (u2 < (I 111 (4 : Int)) → xR d 225 es_225 17 [xr (some 101), xi u1, xi u2, xi (0 : Int)] [] I L (gG D) 0 0 post))))) : xR d 225 es_225 9 [xr (some 101), xi u1, xi u2, u3] [] I L (gG D) 0 0 post := xW_R (fun k => Nat.beq k 1 || Nat.beq k 9 || Nat.beq k 17 || Nat.beq k 27 || Nat.beq k 28 || Nat.beq k 31) 8 _ _ _ _ _ _ _ _ _ _ _ _ h
set_option maxRecDepth 8000 in
theorem b_225 {d : Nat} {I : XI} {L : XL} {D : GD} {post : XQ}   {sv : Int} {g : Int} {x3 : XV} (hd : 0 ≤ d) (h : (((-2147483648 ≤ g ∧ g ≤ 2147483647) ∧ (-2147483648 ≤ (I 111 (4 : Int)) ∧ (I 111 (4 : Int)) ≤ 2147483647)) ∧ (((I 111 (4 : Int)) ≤ g → post (some (xi sv)) I L (gG D)) ∧ (g < (I 111 (4 : Int)) → xR d 225 es_225 17 [xr (some 101), xi sv, xi g, xi (0 : Int)] [] I L (gG D) 0 0 post)))) : xR d 225 es_225 9 [xr (some 101), xi sv, xi g, x3] [] I L (gG D) 0 0 post := sg_225_9  (⟨(by decide), ⟨⟨h.1.1, h.1.2⟩, ⟨fun q372 => (h.2.1 q372), fun q373 => (h.2.2 q373)⟩⟩⟩)
set_option maxRecDepth 8000 in
theorem sg_225_17 {d : Nat} {I : XI} {L : XL} {D : GD} {post : XQ}  {u1 : Int} {u2 : Int} {u3 : Int} (h : ((0 ≤ (4 : Int) ∧ (4 : Int) < (102 : Int)) ∧ (((-2147483648 ≤ u3 ∧ u3 ≤ 2147483647) ∧ (-2147483648 ≤ (I 111 (4 : Int)) ∧ (I 111 (4 : Int)) ≤ 2147483647)) ∧ (((I 111 (4 : Int)) ≤ u3 → xR d 225 es_225 9 [xr (some 101), xi u1, xi (u2 + (1 : Int)), xi u3] [] I L (gG D) 0 0 post) ∧ (u3 < (I 111 (4 : Int)) → xR d 225 es_225 27 [xr (some 101), xi u1, xi u2, xi u3] [xi u3, xr (some 101), xi u2, xr (some 101)] I L (gG D) 0 0 post))))) : xR d 225 es_225 17 [xr (some 101), xi u1, xi u2, xi u3] [] I L (gG D) 0 0 post := xW_R (fun k => Nat.beq k 1 || Nat.beq k 9 || Nat.beq k 17 || Nat.beq k 27 || Nat.beq k 28 || Nat.beq k 31) 10 _ _ _ _ _ _ _ _ _ _ _ _ h
set_option maxRecDepth 8000 in
theorem sg_225_29 {d : Nat} {I : XI} {L : XL} {D : GD} {post : XQ}  {u1 : Int} {u2 : Int} {u3 : Int} {w0 : Int} (h : xR d 225 es_225 31 [xr (some 101), xi u1, xi u2, xi u3] [xi u2, xr (some 101), xi w0] I L (gG D) 0 0 post) : xR d 225 es_225 29 [xr (some 101), xi u1, xi u2, xi u3] [xi w0] I L (gG D) 0 0 post := xW_R (fun k => Nat.beq k 1 || Nat.beq k 9 || Nat.beq k 17 || Nat.beq k 27 || Nat.beq k 28 || Nat.beq k 31) 2 _ _ _ _ _ _ _ _ _ _ _ _ h
set_option maxRecDepth 8000 in
theorem sg_225_32 {d : Nat} {I : XI} {L : XL} {D : GD} {post : XQ}  {u1 : Int} {u2 : Int} {u3 : Int} {w0 : Int} {w1 : Int} (h : (((-2147483648 ≤ w0 ∧ w0 ≤ 2147483647) ∧ (-2147483648 ≤ w1 ∧ w1 ≤ 2147483647)) ∧ ((w0 ≤ w1 → xR d 225 es_225 17 [xr (some 101), xi u1, xi u2, xi (u3 + (1 : Int))] [] I L (gG D) 0 0 post) ∧ (w1 < w0 → xR d 225 es_225 17 [xr (some 101), xi (xior u1 (xshl (1 : Int) u2)), xi u2, xi (u3 + (1 : Int))] [] I L (gG D) 0 0 post)))) : xR d 225 es_225 32 [xr (some 101), xi u1, xi u2, xi u3] [xi w1, xi w0] I L (gG D) 0 0 post := xW_R (fun k => Nat.beq k 1 || Nat.beq k 9 || Nat.beq k 17 || Nat.beq k 27 || Nat.beq k 28 || Nat.beq k 31) 9 _ _ _ _ _ _ _ _ _ _ _ _ h
set_option maxRecDepth 8000 in
theorem b_225i {d : Nat} {I : XI} {L : XL} {D : GD} {post : XQ}   {sv : Int} {g : Int} {o : Int} (hd : 4 ≤ d) (h : (((-2147483648 ≤ o ∧ o ≤ 2147483647) ∧ (-2147483648 ≤ (I 111 (4 : Int)) ∧ (I 111 (4 : Int)) ≤ 2147483647)) ∧ (((I 111 (4 : Int)) ≤ o → xR d 225 es_225 9 [xr (some 101), xi sv, xi (g + (1 : Int)), xi o] [] I L (gG D) 0 0 post) ∧ (o < (I 111 (4 : Int)) → ((SO (I 111) ∧ (-2147483648 ≤ o ∧ o ≤ 2147483647)) ∧ ((SO (I 111) ∧ (0 ≤ g ∧ g < 5)) ∧ (((-2147483648 ≤ (pworths (I 111) g (pslices (I 111) o)) ∧ (pworths (I 111) g (pslices (I 111) o)) ≤ 2147483647) ∧ (-2147483648 ≤ (phas (I 111) g) ∧ (phas (I 111) g) ≤ 2147483647)) ∧ (((pworths (I 111) g (pslices (I 111) o)) ≤ (phas (I 111) g) → xR d 225 es_225 17 [xr (some 101), xi sv, xi g, xi (o + (1 : Int))] [] I L (gG D) 0 0 post) ∧ ((phas (I 111) g) < (pworths (I 111) g (pslices (I 111) o)) → xR d 225 es_225 17 [xr (some 101), xi (xior sv (xshl (1 : Int) g)), xi g, xi (o + (1 : Int))] [] I L (gG D) 0 0 post))))))))) : xR d 225 es_225 17 [xr (some 101), xi sv, xi g, xi o] [] I L (gG D) 0 0 post := sg_225_17  (⟨(by decide), ⟨⟨h.1.1, h.1.2⟩, ⟨fun q376 => (h.2.1 q376), fun q377 => (xR_cF rfl rfl rfl (c_197 (h.2.2 q377).1) (by omega) (xR_cF rfl rfl rfl (c_198 (h.2.2 q377).2.1) (by omega) (sg_225_29  (xR_cF rfl rfl rfl (c_199 (h.2.2 q377).2.1) (by omega) (sg_225_32  ⟨⟨(h.2.2 q377).2.2.1.1, (h.2.2 q377).2.2.1.2⟩, ⟨fun q374 => ((h.2.2 q377).2.2.2.1 q374), fun q375 => ((h.2.2 q377).2.2.2.2 q375)⟩⟩)))))⟩⟩⟩)
theorem lp_225 {I : XI} {L : XL} {D : GD} {d : Nat} {post : XQ} {g set : Int} (hd : 4 ≤ d) (hS : SO (I 111)) (hg : 0 ≤ g ∧ g < 5) (hc : ∀ x3 : XV, xR d 225 es_225 9 [xr (some 101), xi (pen1 (I 111) g (I 111 4).toNat set), xi (g + 1), x3] [] I L (gG D) 0 0 post) : xR d 225 es_225 17 [xr (some 101), xi set, xi g, xi 0] [] I L (gG D) 0 0 post := by
  have hn := hS.g
  have key : ∀ k : Nat, k ≤ (I 111 4).toNat → xR d 225 es_225 17 [xr (some 101), xi (pen1 (I 111) g k set), xi g, xi (k : Int)] [] I L (gG D) 0 0 (post) := by
    refine xfor ?_ ?_
    · refine b_225i (by omega) ?_
      repeat' first | (with_reducible intro _) | (with_reducible refine And.intro ?_ ?_)
      all_goals first | omega | assumption | skip
      exact hc _
    · intro k hk ih 
      have h1 := pworths_rg hS (set := pslices (I 111) (k : Int)) hg.1 hg.2
      have h2 := phas_rg hS hg.1 hg.2
      have hG1 : SO (I 111) ∧ (-2147483648 ≤ (k : Int) ∧ (k : Int) ≤ 2147483647) := ⟨hS, by omega⟩
      have hG2 : SO (I 111) ∧ (0 ≤ g ∧ g < 5) := ⟨hS, hg⟩
      have e : pen1 (I 111) g (k + 1) set = if phas (I 111) g < pworths (I 111) g (pslices (I 111) (k : Int)) then xior (pen1 (I 111) g k set) (xshl 1 g) else pen1 (I 111) g k set := rfl
      refine b_225i (by omega) ?_
      repeat' first | (with_reducible intro _) | (with_reducible refine And.intro ?_ ?_)
      all_goals first | omega | assumption | skip
      all_goals first | (rw [if_pos (by assumption)] at e; rw [e] at ih; exact ih) | (rw [if_neg (by omega)] at e; rw [e] at ih; exact ih)
  exact key 0 (Nat.zero_le _)
theorem c_225 {I : XI} {L : XL} {D : GD}    (h : SO (I 111)) : xM 4 225 [xr (some 101)] I L (gG D) (0, 0) (xD (some (xi (if I 111 (0 : Int) = 1 then qenvy (I 111) else -1))) I L (gG D)) := by
  intro d hd
  have hS := h
  have hn := hS.n
  have hg := hS.g
  have hf := hS.f
  refine w_225 (by omega) ?_
  by_cases hc : I 111 (0 : Int) = 1
  · simp only [if_pos hc]
    have key : ∀ k : Nat, k ≤ (I 111 4).toNat → ∀ (x3 : XV), xR d 225 es_225 9 [xr (some 101), xi (peno (I 111) k), xi (k : Int), x3] [] I L (gG D) 0 0 (xD (some (xi (qenvy (I 111)))) I L (gG D)) := by
      refine xfor ?_ ?_
      · intro x3
        refine b_225 (by omega) ?_
        repeat' first | (with_reducible intro _) | (with_reducible refine And.intro ?_ ?_)
        all_goals first | omega | assumption | skip
        exact xD_in
      · intro k hk ih x3
        refine b_225 (by omega) ?_
        repeat' first | (with_reducible intro _) | (with_reducible refine And.intro ?_ ?_)
        all_goals first | omega | assumption | skip
        exact lp_225 (by omega) hS (by omega) ih
    repeat' first | (with_reducible intro _) | (with_reducible refine And.intro ?_ ?_)
    all_goals first | omega | assumption | exact xD_in | skip
    exact key 0 (Nat.zero_le _) _
  · simp only [if_neg hc]
    repeat' first | (with_reducible intro _) | (with_reducible refine And.intro ?_ ?_)
    all_goals first | omega | assumption | (exact xD_eq rfl rfl rfl) | skip
def pneed (a : Int → Int) (g : Int) : Nat → Int
  | 0 => -1
  | n + 1 => if ¬ xand (n : Int) (xxor (pslices a (-1)) (-1)) = 0 ∨ (0 ≤ pneed a g n ∧ pbits (pneed a g n) ≤ pbits (n : Int)) then pneed a g n else if a (21 + g) ≤ phas a g + pworths a g (n : Int) then (n : Int) else pneed a g n
def qneeds (a : Int → Int) (g what : Int) : Int := if pneed a g (pslices a (-1) + 1).toNat < 0 then -2 else if what = 0 then pbits (pneed a g (pslices a (-1) + 1).toNat) else pneed a g (pslices a (-1) + 1).toNat
theorem pneed_rg (a : Int → Int) (g : Int) : ∀ n : Nat, -1 ≤ pneed a g n ∧ pneed a g n < (n : Int) := by
  intro n
  induction n with
  | zero => exact ⟨by show (-1 : Int) ≤ -1; decide, by show (-1 : Int) < 0; decide⟩
  | succ n ih =>
    unfold pneed
    (repeat' split) <;> omega
set_option maxRecDepth 8000 in
theorem sg_226_0 {d : Nat} {I : XI} {L : XL} {D : GD} {post : XQ}  {u1 : Int} {u2 : Int} (h : xR d 226 es_226 2 [xr (some 101), xi u1, xi u2, xt 0, xt 0, xt 0] [xi u1, xr (some 101)] I L (gG D) 0 0 post) : xR d 226 es_226 0 [xr (some 101), xi u1, xi u2, xt 0, xt 0, xt 0] [] I L (gG D) 0 0 post := xW_R (fun k => Nat.beq k 2 || Nat.beq k 8 || Nat.beq k 14 || Nat.beq k 20 || Nat.beq k 32 || Nat.beq k 34 || Nat.beq k 39 || Nat.beq k 43 || Nat.beq k 63) 2 _ _ _ _ _ _ _ _ _ _ _ _ h
set_option maxRecDepth 8000 in
theorem sg_226_3 {d : Nat} {I : XI} {L : XL} {D : GD} {post : XQ}  {u1 : Int} {u2 : Int} {w0 : Int} (h : ((-2147483648 ≤ w0 ∧ w0 ≤ 2147483647) ∧ ((w0 = 0 → post (some (xi (-1 : Int))) I L (gG D)) ∧ (¬ w0 = 0 → ((-2147483648 ≤ u2 ∧ u2 ≤ 2147483647) ∧ xR d 226 es_226 8 [xr (some 101), xi u1, xi u2, xt 0, xt 0, xt 0] [xl (1 : Int64), xl (0 : Int64), xl (Int64.ofInt u2)] I L (gG D) 0 0 post))))) : xR d 226 es_226 3 [xr (some 101), xi u1, xi u2, xt 0, xt 0, xt 0] [xi w0] I L (gG D) 0 0 post := xW_R (fun k => Nat.beq k 2 || Nat.beq k 8 || Nat.beq k 14 || Nat.beq k 20 || Nat.beq k 32 || Nat.beq k 34 || Nat.beq k 39 || Nat.beq k 43 || Nat.beq k 63) 5 _ _ _ _ _ _ _ _ _ _ _ _ h
set_option maxRecDepth 8000 in
theorem sg_226_9 {d : Nat} {I : XI} {L : XL} {D : GD} {post : XQ}  {u1 : Int} {u2 : Int} {w0 : Int} (h : ((-2147483648 ≤ w0 ∧ w0 ≤ 2147483647) ∧ ((¬ w0 = 0 → xR d 226 es_226 14 [xr (some 101), xi u1, xi u2, xt 0, xt 0, xt 0] [xi (-1 : Int), xr (some 101)] I L (gG D) 0 0 post) ∧ (w0 = 0 → post (some (xi (-1 : Int))) I L (gG D))))) : xR d 226 es_226 9 [xr (some 101), xi u1, xi u2, xt 0, xt 0, xt 0] [xi w0] I L (gG D) 0 0 post := xW_R (fun k => Nat.beq k 2 || Nat.beq k 8 || Nat.beq k 14 || Nat.beq k 20 || Nat.beq k 32 || Nat.beq k 34 || Nat.beq k 39 || Nat.beq k 43 || Nat.beq k 63) 3 _ _ _ _ _ _ _ _ _ _ _ _ h
set_option maxRecDepth 8000 in
theorem sg_226_15 {d : Nat} {I : XI} {L : XL} {D : GD} {post : XQ}  {u1 : Int} {u2 : Int} {w0 : Int} (h : xR d 226 es_226 20 [xr (some 101), xi u1, xi u2, xi w0, xi (-1 : Int), xi (0 : Int)] [] I L (gG D) 0 0 post) : xR d 226 es_226 15 [xr (some 101), xi u1, xi u2, xt 0, xt 0, xt 0] [xi w0] I L (gG D) 0 0 post := xW_R (fun k => Nat.beq k 2 || Nat.beq k 8 || Nat.beq k 14 || Nat.beq k 20 || Nat.beq k 32 || Nat.beq k 34 || Nat.beq k 39 || Nat.beq k 43 || Nat.beq k 63) 5 _ _ _ _ _ _ _ _ _ _ _ _ h
set_option maxRecDepth 8000 in
theorem w_226 {d : Nat} {I : XI} {L : XL} {D : GD} {post : XQ}   {gu : Int} {what : Int} (hd : 1 ≤ d) (h : ((SO (I 111) ∧ (-2147483648 ≤ gu ∧ gu ≤ 2147483647)) ∧ (((¬ (0 ≤ gu ∧ gu < I 111 (4 : Int)) → post (some (xi (-1 : Int))) I L (gG D)) ∧ (0 ≤ gu ∧ gu < I 111 (4 : Int) → (((-2147483648 ≤ what ∧ what ≤ 2147483647)) ∧ (((-2147483648 ≤ what ∧ what ≤ 2147483647) ∧ (-2147483648 ≤ (0 : Int) ∧ (0 : Int) ≤ 2147483647) ∧ (-2147483648 ≤ (1 : Int) ∧ (1 : Int) ≤ 2147483647)) ∧ ((((0 : Int) ≤ what ∧ what ≤ (1 : Int) → ((SO (I 111) ∧ (-2147483648 ≤ (-1 : Int) ∧ (-1 : Int) ≤ 2147483647)) ∧ xR d 226 es_226 20 [xr (some 101), xi gu, xi what, xi (pslices (I 111) (-1 : Int)), xi (-1 : Int), xi (0 : Int)] [] I L (gG D) 0 0 post)) ∧ (¬ ((0 : Int) ≤ what ∧ what ≤ (1 : Int)) → post (some (xi (-1 : Int))) I L (gG D))))))))))) : xR d 226 es_226 0 [xr (some 101), xi gu, xi what, xt 0, xt 0, xt 0] [] I L (gG D) 0 0 post := sg_226_0  ((xR_cF rfl rfl rfl (c_194 h.1) (by omega) (sg_226_3  ⟨(xb_rg _), ⟨fun q380 => (h.2.1 (xb_0 q380)), fun q381 => ⟨(h.2.2 (xb_n0 q381)).1, (xR_cF rfl rfl rfl (c_147 (h.2.2 (xb_n0 q381)).2.1) (by omega) (sg_226_9  ⟨(xb_rg _), ⟨fun q378 => (xR_cF rfl rfl rfl (c_197 ((h.2.2 (xb_n0 q381)).2.2.1 (xb_n0 q378)).1) (by omega) (sg_226_15  ((h.2.2 (xb_n0 q381)).2.2.1 (xb_n0 q378)).2)), fun q379 => ((h.2.2 (xb_n0 q381)).2.2.2 (xb_0 q379))⟩⟩))⟩⟩⟩)))
set_option maxRecDepth 8000 in
theorem sg_226_20 {d : Nat} {I : XI} {L : XL} {D : GD} {post : XQ}  {u1 : Int} {u2 : Int} {u3 : Int} {u4 : Int} {u5 : Int} (h : (((-2147483648 ≤ u5 ∧ u5 ≤ 2147483647) ∧ (-2147483648 ≤ u3 ∧ u3 ≤ 2147483647)) ∧ ((u3 < u5 → ((-2147483648 ≤ u4 ∧ u4 ≤ 2147483647) ∧ ((0 ≤ u4 → ((-2147483648 ≤ u2 ∧ u2 ≤ 2147483647) ∧ ((¬ u2 = 0 → post (some (xi u4)) I L (gG D)) ∧ (u2 = 0 → xR d 226 es_226 63 [xr (some 101), xi u1, xi u2, xi u3, xi u4, xi u5] [xi u4] I L (gG D) 0 0 post)))) ∧ (u4 < 0 → post (some (xi (-2 : Int))) I L (gG D))))) ∧ (u5 ≤ u3 → ((-2147483648 ≤ (xand u5 (xxor u3 (-1 : Int))) ∧ (xand u5 (xxor u3 (-1 : Int))) ≤ 2147483647) ∧ ((¬ (xand u5 (xxor u3 (-1 : Int))) = 0 → xR d 226 es_226 20 [xr (some 101), xi u1, xi u2, xi u3, xi u4, xi (u5 + (1 : Int))] [] I L (gG D) 0 0 post) ∧ ((xand u5 (xxor u3 (-1 : Int))) = 0 → ((-2147483648 ≤ u4 ∧ u4 ≤ 2147483647) ∧ ((u4 < 0 → xR d 226 es_226 39 [xr (some 101), xi u1, xi u2, xi u3, xi u4, xi u5] [xi u1, xr (some 101)] I L (gG D) 0 0 post) ∧ (0 ≤ u4 → xR d 226 es_226 32 [xr (some 101), xi u1, xi u2, xi u3, xi u4, xi u5] [xi u5] I L (gG D) 0 0 post)))))))))) : xR d 226 es_226 20 [xr (some 101), xi u1, xi u2, xi u3, xi u4, xi u5] [] I L (gG D) 0 0 post := xW_R (fun k => Nat.beq k 2 || Nat.beq k 8 || Nat.beq k 14 || Nat.beq k 20 || Nat.beq k 32 || Nat.beq k 34 || Nat.beq k 39 || Nat.beq k 43 || Nat.beq k 63) 13 _ _ _ _ _ _ _ _ _ _ _ _ h
set_option maxRecDepth 8000 in
theorem sg_226_64 {d : Nat} {I : XI} {L : XL} {D : GD} {post : XQ}  {u1 : Int} {u2 : Int} {u3 : Int} {u4 : Int} {u5 : Int} {w0 : Int} (h : post (some (xi w0)) I L (gG D)) : xR d 226 es_226 64 [xr (some 101), xi u1, xi u2, xi u3, xi u4, xi u5] [xi w0] I L (gG D) 0 0 post := xW_R (fun k => Nat.beq k 2 || Nat.beq k 8 || Nat.beq k 14 || Nat.beq k 20 || Nat.beq k 32 || Nat.beq k 34 || Nat.beq k 39 || Nat.beq k 43 || Nat.beq k 63) 2 _ _ _ _ _ _ _ _ _ _ _ _ h
set_option maxRecDepth 8000 in
theorem sg_226_40 {d : Nat} {I : XI} {L : XL} {D : GD} {post : XQ}  {u1 : Int} {u2 : Int} {u3 : Int} {u4 : Int} {u5 : Int} {w0 : Int} (h : xR d 226 es_226 43 [xr (some 101), xi u1, xi u2, xi u3, xi u4, xi u5] [xi u5, xi u1, xr (some 101), xi w0] I L (gG D) 0 0 post) : xR d 226 es_226 40 [xr (some 101), xi u1, xi u2, xi u3, xi u4, xi u5] [xi w0] I L (gG D) 0 0 post := xW_R (fun k => Nat.beq k 2 || Nat.beq k 8 || Nat.beq k 14 || Nat.beq k 20 || Nat.beq k 32 || Nat.beq k 34 || Nat.beq k 39 || Nat.beq k 43 || Nat.beq k 63) 3 _ _ _ _ _ _ _ _ _ _ _ _ h
set_option maxRecDepth 8000 in
theorem sg_226_44 {d : Nat} {I : XI} {L : XL} {D : GD} {post : XQ}  {u1 : Int} {u2 : Int} {u3 : Int} {u4 : Int} {u5 : Int} {w0 : Int} {w1 : Int} (h : ((0 ≤ ((21 : Int) + u1) ∧ ((21 : Int) + u1) < (102 : Int)) ∧ (((-2147483648 ≤ (w0 + w1) ∧ (w0 + w1) ≤ 2147483647) ∧ (-2147483648 ≤ (I 111 ((21 : Int) + u1)) ∧ (I 111 ((21 : Int) + u1)) ≤ 2147483647)) ∧ (((w0 + w1) < (I 111 ((21 : Int) + u1)) → xR d 226 es_226 20 [xr (some 101), xi u1, xi u2, xi u3, xi u4, xi (u5 + (1 : Int))] [] I L (gG D) 0 0 post) ∧ ((I 111 ((21 : Int) + u1)) ≤ (w0 + w1) → xR d 226 es_226 20 [xr (some 101), xi u1, xi u2, xi u3, xi u5, xi (u5 + (1 : Int))] [] I L (gG D) 0 0 post))))) : xR d 226 es_226 44 [xr (some 101), xi u1, xi u2, xi u3, xi u4, xi u5] [xi w1, xi w0] I L (gG D) 0 0 post := xW_R (fun k => Nat.beq k 2 || Nat.beq k 8 || Nat.beq k 14 || Nat.beq k 20 || Nat.beq k 32 || Nat.beq k 34 || Nat.beq k 39 || Nat.beq k 43 || Nat.beq k 63) 12 _ _ _ _ _ _ _ _ _ _ _ _ h
set_option maxRecDepth 8000 in
theorem sg_226_33 {d : Nat} {I : XI} {L : XL} {D : GD} {post : XQ}  {u1 : Int} {u2 : Int} {u3 : Int} {u4 : Int} {u5 : Int} {w0 : Int} (h : xR d 226 es_226 34 [xr (some 101), xi u1, xi u2, xi u3, xi u4, xi u5] [xi u4, xi w0] I L (gG D) 0 0 post) : xR d 226 es_226 33 [xr (some 101), xi u1, xi u2, xi u3, xi u4, xi u5] [xi w0] I L (gG D) 0 0 post := xW_R (fun k => Nat.beq k 2 || Nat.beq k 8 || Nat.beq k 14 || Nat.beq k 20 || Nat.beq k 32 || Nat.beq k 34 || Nat.beq k 39 || Nat.beq k 43 || Nat.beq k 63) 1 _ _ _ _ _ _ _ _ _ _ _ _ h
set_option maxRecDepth 8000 in
theorem sg_226_35 {d : Nat} {I : XI} {L : XL} {D : GD} {post : XQ}  {u1 : Int} {u2 : Int} {u3 : Int} {u4 : Int} {u5 : Int} {w0 : Int} {w1 : Int} (h : (((-2147483648 ≤ w0 ∧ w0 ≤ 2147483647) ∧ (-2147483648 ≤ w1 ∧ w1 ≤ 2147483647)) ∧ ((w0 < w1 → xR d 226 es_226 39 [xr (some 101), xi u1, xi u2, xi u3, xi u4, xi u5] [xi u1, xr (some 101)] I L (gG D) 0 0 post) ∧ (w1 ≤ w0 → xR d 226 es_226 20 [xr (some 101), xi u1, xi u2, xi u3, xi u4, xi (u5 + (1 : Int))] [] I L (gG D) 0 0 post)))) : xR d 226 es_226 35 [xr (some 101), xi u1, xi u2, xi u3, xi u4, xi u5] [xi w1, xi w0] I L (gG D) 0 0 post := xW_R (fun k => Nat.beq k 2 || Nat.beq k 8 || Nat.beq k 14 || Nat.beq k 20 || Nat.beq k 32 || Nat.beq k 34 || Nat.beq k 39 || Nat.beq k 43 || Nat.beq k 63) 4 _ _ _ _ _ _ _ _ _ _ _ _ h
set_option maxRecDepth 8000 in
theorem b_226 {d : Nat} {I : XI} {L : XL} {D : GD} {post : XQ}   {gu : Int} {what : Int} {fr : Int} {be : Int} {sv : Int} (hd : 4 ≤ d) (h : (((-2147483648 ≤ sv ∧ sv ≤ 2147483647) ∧ (-2147483648 ≤ fr ∧ fr ≤ 2147483647)) ∧ ((fr < sv → (((-2147483648 ≤ be ∧ be ≤ 2147483647)) ∧ ((0 ≤ be → (((-2147483648 ≤ what ∧ what ≤ 2147483647)) ∧ ((¬ what = 0 → post (some (xi be)) I L (gG D)) ∧ (what = 0 → ((0 ≤ be ∧ be < 1024) ∧ post (some (xi (pbits be))) I L (gG D)))))) ∧ (be < 0 → post (some (xi (-2 : Int))) I L (gG D))))) ∧ (sv ≤ fr → (((¬ (xand sv (xxor fr (-1 : Int))) = 0 → xR d 226 es_226 20 [xr (some 101), xi gu, xi what, xi fr, xi be, xi (sv + (1 : Int))] [] I L (gG D) 0 0 post) ∧ ((xand sv (xxor fr (-1 : Int))) = 0 → (((-2147483648 ≤ be ∧ be ≤ 2147483647)) ∧ ((be < 0 → ((SO (I 111) ∧ (0 ≤ gu ∧ gu < 5)) ∧ (((0 ≤ ((21 : Int) + gu) ∧ ((21 : Int) + gu) < (102 : Int))) ∧ (((-2147483648 ≤ ((phas (I 111) gu) + (pworths (I 111) gu sv)) ∧ ((phas (I 111) gu) + (pworths (I 111) gu sv)) ≤ 2147483647) ∧ (-2147483648 ≤ (I 111 ((21 : Int) + gu)) ∧ (I 111 ((21 : Int) + gu)) ≤ 2147483647)) ∧ ((((phas (I 111) gu) + (pworths (I 111) gu sv)) < (I 111 ((21 : Int) + gu)) → xR d 226 es_226 20 [xr (some 101), xi gu, xi what, xi fr, xi be, xi (sv + (1 : Int))] [] I L (gG D) 0 0 post) ∧ ((I 111 ((21 : Int) + gu)) ≤ ((phas (I 111) gu) + (pworths (I 111) gu sv)) → xR d 226 es_226 20 [xr (some 101), xi gu, xi what, xi fr, xi sv, xi (sv + (1 : Int))] [] I L (gG D) 0 0 post)))))) ∧ (0 ≤ be → ((0 ≤ sv ∧ sv < 1024) ∧ ((0 ≤ be ∧ be < 1024) ∧ (((-2147483648 ≤ (pbits sv) ∧ (pbits sv) ≤ 2147483647) ∧ (-2147483648 ≤ (pbits be) ∧ (pbits be) ≤ 2147483647)) ∧ (((pbits sv) < (pbits be) → ((SO (I 111) ∧ (0 ≤ gu ∧ gu < 5)) ∧ (((0 ≤ ((21 : Int) + gu) ∧ ((21 : Int) + gu) < (102 : Int))) ∧ (((-2147483648 ≤ ((phas (I 111) gu) + (pworths (I 111) gu sv)) ∧ ((phas (I 111) gu) + (pworths (I 111) gu sv)) ≤ 2147483647) ∧ (-2147483648 ≤ (I 111 ((21 : Int) + gu)) ∧ (I 111 ((21 : Int) + gu)) ≤ 2147483647)) ∧ ((((phas (I 111) gu) + (pworths (I 111) gu sv)) < (I 111 ((21 : Int) + gu)) → xR d 226 es_226 20 [xr (some 101), xi gu, xi what, xi fr, xi be, xi (sv + (1 : Int))] [] I L (gG D) 0 0 post) ∧ ((I 111 ((21 : Int) + gu)) ≤ ((phas (I 111) gu) + (pworths (I 111) gu sv)) → xR d 226 es_226 20 [xr (some 101), xi gu, xi what, xi fr, xi sv, xi (sv + (1 : Int))] [] I L (gG D) 0 0 post)))))) ∧ ((pbits be) ≤ (pbits sv) → xR d 226 es_226 20 [xr (some 101), xi gu, xi what, xi fr, xi be, xi (sv + (1 : Int))] [] I L (gG D) 0 0 post))))))))))))))) : xR d 226 es_226 20 [xr (some 101), xi gu, xi what, xi fr, xi be, xi sv] [] I L (gG D) 0 0 post := sg_226_20  (⟨⟨h.1.1, h.1.2⟩, ⟨fun q396 => ⟨(h.2.1 q396).1, ⟨fun q384 => ⟨((h.2.1 q396).2.1 q384).1, ⟨fun q382 => (((h.2.1 q396).2.1 q384).2.1 q382), fun q383 => (xR_cF rfl rfl rfl (c_149 (((h.2.1 q396).2.1 q384).2.2 q383).1) (by omega) (sg_226_64  (((h.2.1 q396).2.1 q384).2.2 q383).2))⟩⟩, fun q385 => ((h.2.1 q396).2.2 q385)⟩⟩, fun q397 => ⟨(xt_rg _), ⟨fun q394 => ((h.2.2 q397).1 q394), fun q395 => ⟨((h.2.2 q397).2 q395).1, ⟨fun q392 => (xR_cF rfl rfl rfl (c_199 (((h.2.2 q397).2 q395).2.1 q392).1) (by omega) (sg_226_40  (xR_cF rfl rfl rfl (c_198 (((h.2.2 q397).2 q395).2.1 q392).1) (by omega) (sg_226_44  ⟨(((h.2.2 q397).2 q395).2.1 q392).2.1, ⟨⟨(((h.2.2 q397).2 q395).2.1 q392).2.2.1.1, (((h.2.2 q397).2 q395).2.1 q392).2.2.1.2⟩, ⟨fun q386 => ((((h.2.2 q397).2 q395).2.1 q392).2.2.2.1 q386), fun q387 => ((((h.2.2 q397).2 q395).2.1 q392).2.2.2.2 q387)⟩⟩⟩)))), fun q393 => (xR_cF rfl rfl rfl (c_149 (((h.2.2 q397).2 q395).2.2 q393).1) (by omega) (sg_226_33  (xR_cF rfl rfl rfl (c_149 (((h.2.2 q397).2 q395).2.2 q393).2.1) (by omega) (sg_226_35  ⟨⟨(((h.2.2 q397).2 q395).2.2 q393).2.2.1.1, (((h.2.2 q397).2 q395).2.2 q393).2.2.1.2⟩, ⟨fun q390 => (xR_cF rfl rfl rfl (c_199 ((((h.2.2 q397).2 q395).2.2 q393).2.2.2.1 q390).1) (by omega) (sg_226_40  (xR_cF rfl rfl rfl (c_198 ((((h.2.2 q397).2 q395).2.2 q393).2.2.2.1 q390).1) (by omega) (sg_226_44  ⟨((((h.2.2 q397).2 q395).2.2 q393).2.2.2.1 q390).2.1, ⟨⟨((((h.2.2 q397).2 q395).2.2 q393).2.2.2.1 q390).2.2.1.1, ((((h.2.2 q397).2 q395).2.2 q393).2.2.2.1 q390).2.2.1.2⟩, ⟨fun q388 => (((((h.2.2 q397).2 q395).2.2 q393).2.2.2.1 q390).2.2.2.1 q388), fun q389 => (((((h.2.2 q397).2 q395).2.2 q393).2.2.2.1 q390).2.2.2.2 q389)⟩⟩⟩)))), fun q391 => ((((h.2.2 q397).2 q395).2.2 q393).2.2.2.2 q391)⟩⟩))))⟩⟩⟩⟩⟩⟩)
theorem c_226 {I : XI} {L : XL} {D : GD}   {gu : Int} {what : Int} (h : (SO (I 111) ∧ (-2147483648 ≤ gu ∧ gu ≤ 2147483647) ∧ (-2147483648 ≤ what ∧ what ≤ 2147483647))) : xM 4 226 [xr (some 101), xi gu, xi what] I L (gG D) (0, 0) (xD (some (xi (if (0 ≤ gu ∧ gu < I 111 (4 : Int)) ∧ (0 ≤ what ∧ what ≤ 1) then qneeds (I 111) gu what else -1))) I L (gG D)) := by
  intro d hd
  obtain ⟨hS, h1, h2⟩ := h
  have hn := hS.n
  have hg := hS.g
  have hf := hS.f
  have hb := pslices_rg hS (-1)
  refine w_226 (by omega) ?_
  by_cases hc : (0 ≤ gu ∧ gu < I 111 (4 : Int)) ∧ (0 ≤ what ∧ what ≤ 1)
  · simp only [if_pos hc]
    have hr := hS.r hc.1.1 (by omega)
    have hh := phas_rg hS hc.1.1 (by omega)
    have key : ∀ k : Nat, k ≤ (pslices (I 111) (-1) + 1).toNat → xR d 226 es_226 20 [xr (some 101), xi gu, xi what, xi (pslices (I 111) (-1)), xi (pneed (I 111) gu k), xi (k : Int)] [] I L (gG D) 0 0 (xD (some (xi (qneeds (I 111) gu what))) I L (gG D)) := by
      refine xfor ?_ ?_
      · have hq := pneed_rg (I 111) gu (pslices (I 111) (-1) + 1).toNat
        have hq1 := fun h0 : 0 ≤ pneed (I 111) gu (pslices (I 111) (-1) + 1).toNat => pbits_rg h0 (by omega)
        refine b_226 (by omega) ?_
        repeat' first | (with_reducible intro _) | (with_reducible refine And.intro ?_ ?_)
        all_goals first | omega | assumption | skip
        all_goals (refine xD_eq ?_ rfl rfl; unfold qneeds; (repeat' split) <;> first | rfl | omega)
      · intro k hk ih 
        have hq := pneed_rg (I 111) gu k
        have hq1 := fun h0 : 0 ≤ pneed (I 111) gu k => pbits_rg h0 (by omega)
        have hq2 := pbits_rg (x := (k : Int)) (by omega) (by omega)
        have hw := pworths_rg hS (g := gu) (set := (k : Int)) hc.1.1 (by omega)
        have hG : SO (I 111) ∧ (0 ≤ gu ∧ gu < 5) := ⟨hS, by omega⟩
        have e : pneed (I 111) gu (k + 1) = if ¬ xand (k : Int) (xxor (pslices (I 111) (-1)) (-1)) = 0 ∨ (0 ≤ pneed (I 111) gu k ∧ pbits (pneed (I 111) gu k) ≤ pbits (k : Int)) then pneed (I 111) gu k else if I 111 (21 + gu) ≤ phas (I 111) gu + pworths (I 111) gu (k : Int) then (k : Int) else pneed (I 111) gu k := rfl
        refine b_226 (by omega) ?_
        repeat' first | (with_reducible intro _) | (with_reducible refine And.intro ?_ ?_)
        all_goals first | omega | assumption | skip
        all_goals first | (have := hq1 (by assumption); omega) | skip
        all_goals first
          | (rw [if_pos (by omega)] at e; rw [e] at ih; exact ih)
          | (rw [if_neg (by omega), if_pos (by omega)] at e; rw [e] at ih; exact ih)
          | (rw [if_neg (by omega), if_neg (by omega)] at e; rw [e] at ih; exact ih)
    repeat' first | (with_reducible intro _) | (with_reducible refine And.intro ?_ ?_)
    all_goals first | omega | assumption | exact ⟨hS, by omega⟩ | exact xD_in | skip
    exact key 0 (Nat.zero_le _)
  · simp only [if_neg hc]
    repeat' first | (with_reducible intro _) | (with_reducible refine And.intro ?_ ?_)
    all_goals first | omega | assumption | exact ⟨hS, by omega⟩ | (exact xD_eq rfl rfl rfl) | skip
