def srow (R old : Int → Int) (k : Int) : Int → Int := fun j => if 0 ≤ j ∧ j < k then (if j < 71 then R j else 0) else old j
theorem srow_step {R old : Int → Int} {k : Int} (h : 0 ≤ k) : xup (srow R old k) k (if k < 71 then R k else 0) = srow R old (k + 1) := by
  funext j
  unfold xup srow
  by_cases q : j = k
  · subst q; rw [if_pos rfl, if_pos (show 0 ≤ j ∧ j < j + 1 by omega)]
  · rw [if_neg q]
    by_cases q2 : 0 ≤ j ∧ j < k
    · rw [if_pos q2, if_pos (show 0 ≤ j ∧ j < k + 1 by omega)]
    · rw [if_neg q2, if_neg (show ¬ (0 ≤ j ∧ j < k + 1) by omega)]
theorem RDI_0 {f : Int → Int} : RDI (xfl f 0 71) := by
  have e : ∀ j, 0 ≤ j → j < 71 → xfl f 0 71 j = 0 := fun j j0 j1 => if_pos ⟨j0, j1⟩
  refine ⟨⟨Or.inl (e 0 (by decide) (by decide)), by rw [e 3 (by decide) (by decide)]; decide, by rw [e 4 (by decide) (by decide)]; decide⟩, by rw [e 1 (by decide) (by decide)]; decide, by rw [e 2 (by decide) (by decide)]; decide, fun s s0 s1 => by rw [e _ (by omega) (by omega)]; decide, fun s s0 s1 => by rw [e _ (by omega) (by omega)]; decide, fun s s0 s1 => by rw [e _ (by omega) (by omega)]; decide, fun s s0 s1 => by rw [e _ (by omega) (by omega)]; decide⟩
theorem fra_RDI {b : Int → Int} {n : Int} (h4 : n ≤ 400) : ∀ (r : Nat) (ln p : Int) (rd : Int → Int), 0 ≤ p → p ≤ n → RDI rd → (fra b n r ln p rd).1 = 0 → RDI (fra b n r ln p rd).2 := by
  intro r
  induction r with
  | zero => intro ln p rd _ _ _ h; exact absurd (show (1 : Int) = 0 from h) (by decide)
  | succ r ih =>
    intro ln p rd p0 pn hr h
    have hs := sk_in (b := b) pn
    rw [fra_s] at h ⊢
    by_cases w0 : fcw b n (sk b n p) ln (rd 0) (rd 3) (rd 4) = 0
    · rw [if_neg (fun r => r w0)] at h ⊢
      have hr2 := RDI_fcr hr (by omega) (by omega) w0
      have hp := fcp_in (b := b) (n := n) (p := sk b n p) (by omega)
      have hs2 := sk_in (b := b) hp.2
      unfold frt at h ⊢
      by_cases c : tc b n (sk b n (fcp b n (sk b n p))) = 59
      · rw [if_pos c] at h ⊢
        have := tc_lt c
        exact ih _ _ _ (by omega) (by omega) hr2 h
      · rw [if_neg c] at h ⊢
        by_cases c2 : tc b n (sk b n (fcp b n (sk b n p))) = -1
        · rw [if_pos c2]; exact hr2
        · rw [if_neg c2] at h
          exact absurd h (by show ¬ (1 + 8 * sk b n (fcp b n (sk b n p)) + 0 = 0); omega)
    · rw [if_pos w0] at h; exact absurd h w0
theorem fra_rg {b : Int → Int} {n : Int} (h4 : n ≤ 400) : ∀ (r : Nat) (ln p : Int) (rd : Int → Int), 0 ≤ p → p ≤ n → 0 ≤ (fra b n r ln p rd).1 ∧ (fra b n r ln p rd).1 ≤ 10000 := by
  intro r
  induction r with
  | zero => intro ln p rd _ _; exact ⟨by show (0 : Int) ≤ 1; decide, by show (1 : Int) ≤ 10000; decide⟩
  | succ r ih =>
    intro ln p rd p0 pn
    have hs := sk_in (b := b) pn
    have hw := fcw_rg (b := b) (n := n) (q := sk b n p) (ln := ln) (r0 := rd 0) (N := rd 3) (G := rd 4) (by omega) (by omega) h4
    rw [fra_s]
    by_cases w0 : fcw b n (sk b n p) ln (rd 0) (rd 3) (rd 4) = 0
    · rw [if_neg (fun r => r w0)]
      have hp := fcp_in (b := b) (n := n) (p := sk b n p) (by omega)
      have hs2 := sk_in (b := b) hp.2
      unfold frt
      by_cases c : tc b n (sk b n (fcp b n (sk b n p))) = 59
      · rw [if_pos c]
        have := tc_lt c
        exact ih _ _ _ (by omega) (by omega)
      · rw [if_neg c]
        split
        · exact ⟨by show (0 : Int) ≤ 0; decide, by show (0 : Int) ≤ 10000; decide⟩
        · exact ⟨by show 0 ≤ 1 + 8 * sk b n (fcp b n (sk b n p)) + 0; omega, by show 1 + 8 * sk b n (fcp b n (sk b n p)) + 0 ≤ 10000; omega⟩
    · rw [if_pos w0]; exact hw
set_option maxRecDepth 8000 in
theorem sg_186_0 {d : Nat} {I : XI} {L : XL} {D : GD} {post : XQ}   (h : xR d 186 es_186 5 [xr (some 101), xi (0 : Int)] [] (xwr I 101 (11 : Int) (6 : Int)) L (gG D) 0 0 post) : xR d 186 es_186 0 [xr (some 101), xt 0] [] I L (gG D) 0 0 post := xW_R (fun k => Nat.beq k 5 || Nat.beq k 16 || Nat.beq k 25 || Nat.beq k 44) 5 _ _ _ _ _ _ _ _ _ _ _ _ h
set_option maxRecDepth 8000 in
theorem w_186 {d : Nat} {I : XI} {L : XL} {D : GD} {post : XQ}    (hd : 0 ≤ d) (h : xR d 186 es_186 5 [xr (some 101), xi (0 : Int)] [] (xsc I 101 (xup (I 101) (11 : Int) (6 : Int))) L (gG D) 0 0 post) : xR d 186 es_186 0 [xr (some 101), xt 0] [] I L (gG D) 0 0 post := sg_186_0  (h)
set_option maxRecDepth 8000 in
theorem sg_186_5 {d : Nat} {I : XI} {L : XL} {D : GD} {post : XQ}  {u1 : Int} (h : (((-2147483648 ≤ u1 ∧ u1 ≤ 2147483647) ∧ (-2147483648 ≤ (71 : Int) ∧ (71 : Int) ≤ 2147483647)) ∧ (((71 : Int) ≤ u1 → xR d 186 es_186 16 [xr (some 101), xi u1] [xr (some 101)] I L (gG D) 0 0 post) ∧ (u1 < (71 : Int) → ((0 ≤ u1 ∧ u1 < (71 : Int)) ∧ xR d 186 es_186 5 [xr (some 101), xi (u1 + (1 : Int))] [] (xwr I 107 u1 (0 : Int)) L (gG D) 0 0 post))))) : xR d 186 es_186 5 [xr (some 101), xi u1] [] I L (gG D) 0 0 post := xW_R (fun k => Nat.beq k 5 || Nat.beq k 16 || Nat.beq k 25 || Nat.beq k 44) 10 _ _ _ _ _ _ _ _ _ _ _ _ h
set_option maxRecDepth 8000 in
theorem sg_186_17 {d : Nat} {I : XI} {L : XL} {D : GD} {post : XQ}  {u1 : Int} {w0 : Int} (h : ((-2147483648 ≤ w0 ∧ w0 ≤ 2147483647) ∧ ((¬ w0 = 0 → xR d 186 es_186 25 [xr (some 101), xi (0 : Int)] [] I L (gG D) 0 0 post) ∧ (w0 = 0 → post (some (xi ((-2 : Int) - (I 101 (9 : Int))))) I L (gG D))))) : xR d 186 es_186 17 [xr (some 101), xi u1] [xi w0] I L (gG D) 0 0 post := xW_R (fun k => Nat.beq k 5 || Nat.beq k 16 || Nat.beq k 25 || Nat.beq k 44) 6 _ _ _ _ _ _ _ _ _ _ _ _ h
set_option maxRecDepth 8000 in
theorem b_186a {d : Nat} {I : XI} {L : XL} {D : GD} {post : XQ} {tx : Int} {rd : Int → Int}  {k3 : Int} (hd : 7 ≤ d) (h : (((-2147483648 ≤ k3 ∧ k3 ≤ 2147483647)) ∧ (((71 : Int) ≤ k3 → ((TPO (I 102) (I 101 (1 : Int)) ∧ tx = 6 ∧ RDI rd) ∧ (∀ (e3486 : Int) (e3487 : Int) (e3488 : Int) (e3489 : Int → Int), (((fra (I 102) (I 101 (1 : Int)) 41 0 0 rd).1 = 0 → e3489 = (fra (I 102) (I 101 (1 : Int)) 41 0 0 rd).2) → ((((fra (I 102) (I 101 (1 : Int)) 41 0 0 rd).1 = 0 → xR d 186 es_186 25 [xr (some 101), xi (0 : Int)] [] (xsc (xsc (xsc I 101 (xup (xup (xup (xup (xup (xup (xup (I 101) (1 : Int) 0) (8 : Int) e3486) (9 : Int) ((fra (I 102) (I 101 (1 : Int)) 41 0 0 rd).1)) (10 : Int) e3487) (11 : Int) tx) (12 : Int) 0) (14 : Int) e3488)) 104 (xup (I 104) 6 0)) 107 e3489) L (gG D) 0 0 post) ∧ (¬ ((fra (I 102) (I 101 (1 : Int)) 41 0 0 rd).1 = 0) → post (some (xi ((-2 : Int) - ((fra (I 102) (I 101 (1 : Int)) 41 0 0 rd).1)))) (xsc (xsc (xsc I 101 (xup (xup (xup (xup (xup (xup (xup (I 101) (1 : Int) 0) (8 : Int) e3486) (9 : Int) ((fra (I 102) (I 101 (1 : Int)) 41 0 0 rd).1)) (10 : Int) e3487) (11 : Int) tx) (12 : Int) 0) (14 : Int) e3488)) 104 (xup (I 104) 6 0)) 107 e3489) L (gG D)))))))) ∧ (k3 < (71 : Int) → (((0 ≤ k3 ∧ k3 < (71 : Int))) ∧ xR d 186 es_186 5 [xr (some 101), xi (k3 + (1 : Int))] [] (xsc (xsc I 101 (xup (I 101) (11 : Int) tx)) 107 (xup rd k3 (0 : Int))) L (gG D) 0 0 post))))) : xR d 186 es_186 5 [xr (some 101), xi k3] [] (xsc (xsc I 101 (xup (I 101) (11 : Int) tx)) 107 rd) L (gG D) 0 0 post := sg_186_5  (⟨⟨h.1, (by decide)⟩, ⟨fun q3492 => (xR_cQ rfl rfl rfl (c_184_fe (h.2.1 q3492).1) (by omega) (fun _ _ _ _ hx3494 => by obtain ⟨e3486, e3487, e3488, e3489, hp3495, rfl, rfl, rfl, rfl⟩ := hx3494; exact (sg_186_17  ⟨(xb_rg _), ⟨fun q3490 => (xR_memc (((h.2.1 q3492).2 e3486 e3487 e3488 e3489 hp3495).1 (xb_n0 q3490)) (funext fun i => (xpt rfl (fun h107_ => (xpt rfl (fun h104_ => (xpt (show (xup (xup (xup (xup (xup (xup (xup (I 101) (11 : Int) tx) (1 : Int) 0) (8 : Int) e3486) (9 : Int) ((fra (I 102) (I 101 (1 : Int)) 41 0 0 rd).1)) (10 : Int) e3487) (12 : Int) 0) (14 : Int) e3488) = (xup (xup (xup (xup (xup (xup (xup (I 101) (1 : Int) 0) (8 : Int) e3486) (9 : Int) ((fra (I 102) (I 101 (1 : Int)) 41 0 0 rd).1)) (10 : Int) e3487) (11 : Int) tx) (12 : Int) 0) (14 : Int) e3488) from by funext j; simp only [xup]; (repeat' split) <;> first | rfl | omega) (fun h101_ => (by simp only [xsc_ne _ _ h101_, xwr_ne _ _ _ h101_, xsc_ne _ _ h104_, xwr_ne _ _ _ h104_, xsc_ne _ _ h107_, xwr_ne _ _ _ h107_])))))))) rfl), fun q3491 => (xpost (((h.2.1 q3492).2 e3486 e3487 e3488 e3489 hp3495).2 (xb_0 q3491)) (funext fun i => (xpt rfl (fun h107_ => (xpt rfl (fun h104_ => (xpt (show (xup (xup (xup (xup (xup (xup (xup (I 101) (11 : Int) tx) (1 : Int) 0) (8 : Int) e3486) (9 : Int) ((fra (I 102) (I 101 (1 : Int)) 41 0 0 rd).1)) (10 : Int) e3487) (12 : Int) 0) (14 : Int) e3488) = (xup (xup (xup (xup (xup (xup (xup (I 101) (1 : Int) 0) (8 : Int) e3486) (9 : Int) ((fra (I 102) (I 101 (1 : Int)) 41 0 0 rd).1)) (10 : Int) e3487) (11 : Int) tx) (12 : Int) 0) (14 : Int) e3488) from by funext j; simp only [xup]; (repeat' split) <;> first | rfl | omega) (fun h101_ => (by simp only [xsc_ne _ _ h101_, xwr_ne _ _ _ h101_, xsc_ne _ _ h104_, xwr_ne _ _ _ h104_, xsc_ne _ _ h107_, xwr_ne _ _ _ h107_])))))))) rfl)⟩⟩))), fun q3493 => ⟨(h.2.2 q3493).1, (xR_memc (h.2.2 q3493).2 (funext fun i => (xpt rfl (fun h107_ => (xpt rfl (fun h101_ => (by simp only [xsc_ne _ _ h101_, xwr_ne _ _ _ h101_, xsc_ne _ _ h107_, xwr_ne _ _ _ h107_])))))) rfl)⟩⟩⟩)
set_option maxRecDepth 8000 in
theorem sg_186_25 {d : Nat} {I : XI} {L : XL} {D : GD} {post : XQ}  {u1 : Int} (h : (((-2147483648 ≤ u1 ∧ u1 ≤ 2147483647) ∧ (-2147483648 ≤ (102 : Int) ∧ (102 : Int) ≤ 2147483647)) ∧ (((102 : Int) ≤ u1 → xR d 186 es_186 44 [xr (some 101), xi u1] [xr (some 101)] I L (gG D) 0 0 post) ∧ (u1 < (102 : Int) → (((-2147483648 ≤ u1 ∧ u1 ≤ 2147483647) ∧ (-2147483648 ≤ (71 : Int) ∧ (71 : Int) ≤ 2147483647)) ∧ (((71 : Int) ≤ u1 → ((0 ≤ u1 ∧ u1 < (102 : Int)) ∧ xR d 186 es_186 25 [xr (some 101), xi (u1 + (1 : Int))] [] (xwr I 111 u1 (0 : Int)) L (gG D) 0 0 post)) ∧ (u1 < (71 : Int) → ((0 ≤ u1 ∧ u1 < (71 : Int)) ∧ ((0 ≤ u1 ∧ u1 < (102 : Int)) ∧ xR d 186 es_186 25 [xr (some 101), xi (u1 + (1 : Int))] [] (xwr I 111 u1 (I 107 u1)) L (gG D) 0 0 post))))))))) : xR d 186 es_186 25 [xr (some 101), xi u1] [] I L (gG D) 0 0 post := xW_R (fun k => Nat.beq k 5 || Nat.beq k 16 || Nat.beq k 25 || Nat.beq k 44) 17 _ _ _ _ _ _ _ _ _ _ _ _ h
set_option maxRecDepth 8000 in
theorem sg_186_45 {d : Nat} {I : XI} {L : XL} {D : GD} {post : XQ}  {u1 : Int} (h : ((0 ≤ (3 : Int) ∧ (3 : Int) < (102 : Int)) ∧ post (some (xi (I 111 (3 : Int)))) (xwr I 101 (25 : Int) (0 : Int)) L (gG D))) : xR d 186 es_186 45 [xr (some 101), xi u1] [] I L (gG D) 0 0 post := xW_R (fun k => Nat.beq k 5 || Nat.beq k 16 || Nat.beq k 25 || Nat.beq k 44) 8 _ _ _ _ _ _ _ _ _ _ _ _ h
set_option maxRecDepth 8000 in
theorem b_186b {d : Nat} {I : XI} {L : XL} {D : GD} {post : XQ} {tp nx wr nm tx mk ln : Int} {lg rd sd : Int → Int}  {k3 : Int} (hd : 1 ≤ d) (h : (((-2147483648 ≤ k3 ∧ k3 ≤ 2147483647)) ∧ (((102 : Int) ≤ k3 → post (some (xi (pbeg sd (3 : Int)))) (xsc (xsc (xsc (xsc I 101 (xup (xup (xup (xup (xup (xup (xup (xup (I 101) (1 : Int) tp) (8 : Int) nx) (9 : Int) wr) (10 : Int) nm) (11 : Int) tx) (12 : Int) mk) (14 : Int) ln) (25 : Int) (0 : Int))) 104 lg) 107 rd) 111 (pbeg sd)) L (gG D)) ∧ (k3 < (102 : Int) → ((((71 : Int) ≤ k3 → (((0 ≤ k3 ∧ k3 < (102 : Int))) ∧ xR d 186 es_186 25 [xr (some 101), xi (k3 + (1 : Int))] [] (xsc (xsc (xsc (xsc I 101 (xup (xup (xup (xup (xup (xup (xup (I 101) (1 : Int) tp) (8 : Int) nx) (9 : Int) wr) (10 : Int) nm) (11 : Int) tx) (12 : Int) mk) (14 : Int) ln)) 104 lg) 107 rd) 111 (xup sd k3 (0 : Int))) L (gG D) 0 0 post)) ∧ (k3 < (71 : Int) → (((0 ≤ k3 ∧ k3 < (71 : Int))) ∧ (((0 ≤ k3 ∧ k3 < (102 : Int))) ∧ xR d 186 es_186 25 [xr (some 101), xi (k3 + (1 : Int))] [] (xsc (xsc (xsc (xsc I 101 (xup (xup (xup (xup (xup (xup (xup (I 101) (1 : Int) tp) (8 : Int) nx) (9 : Int) wr) (10 : Int) nm) (11 : Int) tx) (12 : Int) mk) (14 : Int) ln)) 104 lg) 107 rd) 111 (xup sd k3 (rd k3))) L (gG D) 0 0 post))))))))) : xR d 186 es_186 25 [xr (some 101), xi k3] [] (xsc (xsc (xsc (xsc I 101 (xup (xup (xup (xup (xup (xup (xup (I 101) (1 : Int) tp) (8 : Int) nx) (9 : Int) wr) (10 : Int) nm) (11 : Int) tx) (12 : Int) mk) (14 : Int) ln)) 104 lg) 107 rd) 111 sd) L (gG D) 0 0 post := sg_186_25  (⟨⟨h.1, (by decide)⟩, ⟨fun q3498 => (xR_cF rfl rfl rfl c_202 (by omega) (sg_186_45  ⟨(by decide), (xpost (h.2.1 q3498) (funext fun i => (xpt rfl (fun h111_ => (xpt rfl (fun h107_ => (xpt rfl (fun h104_ => (xpt rfl (fun h101_ => (by simp only [xsc_ne _ _ h101_, xwr_ne _ _ _ h101_, xsc_ne _ _ h104_, xwr_ne _ _ _ h104_, xsc_ne _ _ h107_, xwr_ne _ _ _ h107_, xsc_ne _ _ h111_, xwr_ne _ _ _ h111_])))))))))) rfl)⟩)), fun q3499 => ⟨⟨h.1, (by decide)⟩, ⟨fun q3496 => ⟨((h.2.2 q3499).1 q3496).1, (xR_memc ((h.2.2 q3499).1 q3496).2 (funext fun i => (xpt rfl (fun h111_ => (xpt rfl (fun h107_ => (xpt rfl (fun h104_ => (xpt rfl (fun h101_ => (by simp only [xsc_ne _ _ h101_, xwr_ne _ _ _ h101_, xsc_ne _ _ h104_, xwr_ne _ _ _ h104_, xsc_ne _ _ h107_, xwr_ne _ _ _ h107_, xsc_ne _ _ h111_, xwr_ne _ _ _ h111_])))))))))) rfl)⟩, fun q3497 => ⟨((h.2.2 q3499).2 q3497).1, ⟨((h.2.2 q3499).2 q3497).2.1, (xR_memc ((h.2.2 q3499).2 q3497).2.2 (funext fun i => (xpt rfl (fun h111_ => (xpt rfl (fun h107_ => (xpt rfl (fun h104_ => (xpt rfl (fun h101_ => (by simp only [xsc_ne _ _ h101_, xwr_ne _ _ _ h101_, xsc_ne _ _ h104_, xwr_ne _ _ _ h104_, xsc_ne _ _ h107_, xwr_ne _ _ _ h107_, xsc_ne _ _ h111_, xwr_ne _ _ _ h111_])))))))))) rfl)⟩⟩⟩⟩⟩⟩)
theorem c_186 {I : XI} {L : XL} {D : GD}    (h : (TPO (I 102) (I 101 (1 : Int)))) : xM 7 186 [xr (some 101)] I L (gG D) (0, 0) (fun r2 I2 L2 G2 => ∃ (nx9 : Int) (nm9 : Int) (ln9 : Int) (rd9 : Int → Int), r2 = (some (xi (if (fra (I 102) (I 101 (1 : Int)) 41 0 0 (xfl (I 107) 0 71)).1 = 0 then (fra (I 102) (I 101 (1 : Int)) 41 0 0 (xfl (I 107) 0 71)).2 3 else -2 - (fra (I 102) (I 101 (1 : Int)) 41 0 0 (xfl (I 107) 0 71)).1))) ∧ I2 = (xsc (xsc (xsc (xsc I 101 (xup (xup (xup (xup (xup (xup (xup (xup (I 101) (1 : Int) 0) (8 : Int) nx9) (9 : Int) ((fra (I 102) (I 101 (1 : Int)) 41 0 0 (xfl (I 107) 0 71)).1)) (10 : Int) nm9) (11 : Int) 6) (12 : Int) 0) (14 : Int) ln9) (25 : Int) (if (fra (I 102) (I 101 (1 : Int)) 41 0 0 (xfl (I 107) 0 71)).1 = 0 then 0 else I 101 (25 : Int)))) 104 (xup (I 104) 6 0)) 107 rd9) 111 (if (fra (I 102) (I 101 (1 : Int)) 41 0 0 (xfl (I 107) 0 71)).1 = 0 then (pbeg (srow (fra (I 102) (I 101 (1 : Int)) 41 0 0 (xfl (I 107) 0 71)).2 (I 111) 102)) else (I 111))) ∧ L2 = L ∧ G2 = (gG D)) := by
  intro d hd
  have hT := h
  have hT1 := hT.1
  have hrg := fra_rg (b := I 102) hT1.2 41 0 0 (xfl (I 107) 0 71) (by omega) hT1.1
  refine w_186 (by omega) ?_
  have keyb : (fra (I 102) (I 101 (1 : Int)) 41 0 0 (xfl (I 107) 0 71)).1 = 0 → ∀ k : Nat, k ≤ 102 → ∀ (nx nm ln : Int), xR d 186 es_186 25 [xr (some 101), xi (k : Int)] [] (xsc (xsc (xsc (xsc I 101 (xup (xup (xup (xup (xup (xup (xup (I 101) (1 : Int) 0) (8 : Int) nx) (9 : Int) ((fra (I 102) (I 101 (1 : Int)) 41 0 0 (xfl (I 107) 0 71)).1)) (10 : Int) nm) (11 : Int) 6) (12 : Int) 0) (14 : Int) ln)) 104 (xup (I 104) 6 0)) 107 ((fra (I 102) (I 101 (1 : Int)) 41 0 0 (xfl (I 107) 0 71)).2)) 111 (srow (fra (I 102) (I 101 (1 : Int)) 41 0 0 (xfl (I 107) 0 71)).2 (I 111) (k : Int))) L (gG D) 0 0 (fun r2 I2 L2 G2 => ∃ (nx9 : Int) (nm9 : Int) (ln9 : Int) (rd9 : Int → Int), r2 = (some (xi (if (fra (I 102) (I 101 (1 : Int)) 41 0 0 (xfl (I 107) 0 71)).1 = 0 then (fra (I 102) (I 101 (1 : Int)) 41 0 0 (xfl (I 107) 0 71)).2 3 else -2 - (fra (I 102) (I 101 (1 : Int)) 41 0 0 (xfl (I 107) 0 71)).1))) ∧ I2 = (xsc (xsc (xsc (xsc I 101 (xup (xup (xup (xup (xup (xup (xup (xup (I 101) (1 : Int) 0) (8 : Int) nx9) (9 : Int) ((fra (I 102) (I 101 (1 : Int)) 41 0 0 (xfl (I 107) 0 71)).1)) (10 : Int) nm9) (11 : Int) 6) (12 : Int) 0) (14 : Int) ln9) (25 : Int) (if (fra (I 102) (I 101 (1 : Int)) 41 0 0 (xfl (I 107) 0 71)).1 = 0 then 0 else I 101 (25 : Int)))) 104 (xup (I 104) 6 0)) 107 rd9) 111 (if (fra (I 102) (I 101 (1 : Int)) 41 0 0 (xfl (I 107) 0 71)).1 = 0 then (pbeg (srow (fra (I 102) (I 101 (1 : Int)) 41 0 0 (xfl (I 107) 0 71)).2 (I 111) 102)) else (I 111))) ∧ L2 = L ∧ G2 = (gG D)) := by
    intro hz
    refine xfor ?_ ?_
    · intro nx nm ln
      refine b_186b (by omega) ?_
      repeat' first | (with_reducible intro _) | (with_reducible refine And.intro ?_ ?_)
      all_goals first | omega | skip
      all_goals (refine ⟨nx, nm, ln, (fra (I 102) (I 101 (1 : Int)) 41 0 0 (xfl (I 107) 0 71)).2, by rw [if_pos hz]; rfl, ?_, rfl, rfl⟩; rw [if_pos hz, if_pos hz]; first | rfl | (funext i; by_cases h101 : i = 101; (subst h101; first | rfl | exact (xcp_zero _ _ _ _).symm | exact (xup_self _ _).symm | exact (xup_self2 _ _ _).symm | exact (xup_self3 _ _ _ _).symm | exact xup_self _ _); by_cases h104 : i = 104; (subst h104; first | rfl | exact (xcp_zero _ _ _ _).symm | exact (xup_self _ _).symm | exact (xup_self2 _ _ _).symm | exact (xup_self3 _ _ _ _).symm | exact xup_self _ _); by_cases h107 : i = 107; (subst h107; first | rfl | exact (xcp_zero _ _ _ _).symm | exact (xup_self _ _).symm | exact (xup_self2 _ _ _).symm | exact (xup_self3 _ _ _ _).symm | exact xup_self _ _); by_cases h111 : i = 111; (subst h111; first | rfl | exact (xcp_zero _ _ _ _).symm | exact (xup_self _ _).symm | exact (xup_self2 _ _ _).symm | exact (xup_self3 _ _ _ _).symm | exact xup_self _ _); first | rfl | simp only [xsc_ne _ _ h101, xsc_ne _ _ h104, xsc_ne _ _ h107, xsc_ne _ _ h111]))
    · intro k hk ih nx nm ln
      have e := srow_step (R := (fra (I 102) (I 101 (1 : Int)) 41 0 0 (xfl (I 107) 0 71)).2) (old := I 111) (k := (k : Int)) (by omega)
      rw [show ((k + 1 : Nat) : Int) = (k : Int) + 1 by omega, ← e] at ih
      refine b_186b (by omega) ?_
      repeat' first | (with_reducible intro _) | (with_reducible refine And.intro ?_ ?_)
      all_goals first | omega | skip
      · first | (rw [if_neg (by omega)] at ih; exact ih nx nm ln) | (rw [if_pos (by omega)] at ih; exact ih nx nm ln)
      · first | (rw [if_pos (by omega)] at ih; exact ih nx nm ln) | (rw [if_neg (by omega)] at ih; exact ih nx nm ln)
  have keya : ∀ k : Nat, k ≤ 71 → xR d 186 es_186 5 [xr (some 101), xi (k : Int)] [] (xsc (xsc I 101 (xup (I 101) (11 : Int) 6)) 107 (xfl (I 107) 0 (k : Int))) L (gG D) 0 0 (fun r2 I2 L2 G2 => ∃ (nx9 : Int) (nm9 : Int) (ln9 : Int) (rd9 : Int → Int), r2 = (some (xi (if (fra (I 102) (I 101 (1 : Int)) 41 0 0 (xfl (I 107) 0 71)).1 = 0 then (fra (I 102) (I 101 (1 : Int)) 41 0 0 (xfl (I 107) 0 71)).2 3 else -2 - (fra (I 102) (I 101 (1 : Int)) 41 0 0 (xfl (I 107) 0 71)).1))) ∧ I2 = (xsc (xsc (xsc (xsc I 101 (xup (xup (xup (xup (xup (xup (xup (xup (I 101) (1 : Int) 0) (8 : Int) nx9) (9 : Int) ((fra (I 102) (I 101 (1 : Int)) 41 0 0 (xfl (I 107) 0 71)).1)) (10 : Int) nm9) (11 : Int) 6) (12 : Int) 0) (14 : Int) ln9) (25 : Int) (if (fra (I 102) (I 101 (1 : Int)) 41 0 0 (xfl (I 107) 0 71)).1 = 0 then 0 else I 101 (25 : Int)))) 104 (xup (I 104) 6 0)) 107 rd9) 111 (if (fra (I 102) (I 101 (1 : Int)) 41 0 0 (xfl (I 107) 0 71)).1 = 0 then (pbeg (srow (fra (I 102) (I 101 (1 : Int)) 41 0 0 (xfl (I 107) 0 71)).2 (I 111) 102)) else (I 111))) ∧ L2 = L ∧ G2 = (gG D)) := by
    refine xfor ?_ ?_
    · have hR := RDI_0 (f := I 107)
      rw [show ((71 : Nat) : Int) = (71 : Int) from rfl]
      refine b_186a (by omega) ?_
      refine ⟨by decide, fun _ => ⟨⟨hT, rfl, hR⟩, fun e1 e2 e3 e4 hp => ⟨fun hz => ?_, fun hz => ?_⟩⟩, fun h => absurd h (by decide)⟩
      · have k0 := keyb hz 0 (Nat.zero_le _) e1 e2 e3
        rw [show srow (fra (I 102) (I 101 (1 : Int)) 41 0 0 (xfl (I 107) 0 71)).2 (I 111) ((0 : Nat) : Int) = I 111 from by funext j; unfold srow; rw [if_neg (by omega)]] at k0
        rw [hp hz]
        exact xR_memc k0 (by (funext i; by_cases h101 : i = 101; (subst h101; first | rfl | exact (xcp_zero _ _ _ _).symm | exact (xup_self _ _).symm | exact (xup_self2 _ _ _).symm | exact (xup_self3 _ _ _ _).symm | exact xup_self _ _); by_cases h104 : i = 104; (subst h104; first | rfl | exact (xcp_zero _ _ _ _).symm | exact (xup_self _ _).symm | exact (xup_self2 _ _ _).symm | exact (xup_self3 _ _ _ _).symm | exact xup_self _ _); by_cases h107 : i = 107; (subst h107; first | rfl | exact (xcp_zero _ _ _ _).symm | exact (xup_self _ _).symm | exact (xup_self2 _ _ _).symm | exact (xup_self3 _ _ _ _).symm | exact xup_self _ _); by_cases h111 : i = 111; (subst h111; first | rfl | exact (xcp_zero _ _ _ _).symm | exact (xup_self _ _).symm | exact (xup_self2 _ _ _).symm | exact (xup_self3 _ _ _ _).symm | exact xup_self _ _); first | rfl | simp only [xsc_ne _ _ h101, xsc_ne _ _ h104, xsc_ne _ _ h107, xsc_ne _ _ h111])) rfl
      · refine ⟨e1, e2, e3, e4, ?_, ?_, rfl, rfl⟩
        · rw [if_neg hz]
        · rw [if_neg hz, if_neg hz]
          (funext i; by_cases h101 : i = 101; (subst h101; first | rfl | exact (xcp_zero _ _ _ _).symm | exact (xup_self _ _).symm | exact (xup_self2 _ _ _).symm | exact (xup_self3 _ _ _ _).symm | exact xup_self _ _ | (show _ = xup _ 25 _; funext j; unfold xup; (repeat' split) <;> first | rfl | (subst_vars; rfl))); by_cases h104 : i = 104; (subst h104; first | rfl | exact (xcp_zero _ _ _ _).symm | exact (xup_self _ _).symm | exact (xup_self2 _ _ _).symm | exact (xup_self3 _ _ _ _).symm | exact xup_self _ _ | (show _ = xup _ 25 _; funext j; unfold xup; (repeat' split) <;> first | rfl | (subst_vars; rfl))); by_cases h107 : i = 107; (subst h107; first | rfl | exact (xcp_zero _ _ _ _).symm | exact (xup_self _ _).symm | exact (xup_self2 _ _ _).symm | exact (xup_self3 _ _ _ _).symm | exact xup_self _ _ | (show _ = xup _ 25 _; funext j; unfold xup; (repeat' split) <;> first | rfl | (subst_vars; rfl))); by_cases h111 : i = 111; (subst h111; first | rfl | exact (xcp_zero _ _ _ _).symm | exact (xup_self _ _).symm | exact (xup_self2 _ _ _).symm | exact (xup_self3 _ _ _ _).symm | exact xup_self _ _ | (show _ = xup _ 25 _; funext j; unfold xup; (repeat' split) <;> first | rfl | (subst_vars; rfl))); first | rfl | simp only [xsc_ne _ _ h101, xsc_ne _ _ h104, xsc_ne _ _ h107, xsc_ne _ _ h111])
    · intro k hk ih
      have e := xfl_step (g := I 107) (v := 0) (k := (k : Int)) (by omega)
      refine b_186a (by omega) ?_
      repeat' first | (with_reducible intro _) | (with_reducible refine And.intro ?_ ?_)
      all_goals first | omega | skip
      rw [e]
      exact ih
  have k0 := keya 0 (Nat.zero_le _)
  rw [show xfl (I 107) 0 ((0 : Nat) : Int) = I 107 from by funext j; unfold xfl; rw [if_neg (by omega)]] at k0
  exact xR_memc k0 (by (funext i; by_cases h101 : i = 101; (subst h101; first | rfl | exact (xcp_zero _ _ _ _).symm | exact (xup_self _ _).symm | exact (xup_self2 _ _ _).symm | exact (xup_self3 _ _ _ _).symm | exact xup_self _ _); by_cases h107 : i = 107; (subst h107; first | rfl | exact (xcp_zero _ _ _ _).symm | exact (xup_self _ _).symm | exact (xup_self2 _ _ _).symm | exact (xup_self3 _ _ _ _).symm | exact xup_self _ _); first | rfl | simp only [xsc_ne _ _ h101, xsc_ne _ _ h107])) rfl
