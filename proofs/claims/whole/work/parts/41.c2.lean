theorem CO.n {F Kd Z Tr Lk Wt T O U P : Int → Int} (h : CO F Kd Z Tr Lk Wt T O U P) : 0 ≤ F 3 ∧ F 3 ≤ 10 := h.1.n
theorem CO.g {F Kd Z Tr Lk Wt T O U P : Int → Int} (h : CO F Kd Z Tr Lk Wt T O U P) : 0 ≤ F 4 ∧ F 4 ≤ 5 := h.1.g
theorem CO.f {F Kd Z Tr Lk Wt T O U P : Int → Int} (h : CO F Kd Z Tr Lk Wt T O U P) : F 0 = 0 ∨ F 0 = 1 := h.1.f
theorem CO.st {F Kd Z Tr Lk Wt T O U P : Int → Int} (h : CO F Kd Z Tr Lk Wt T O U P) : 0 ≤ F 2 ∧ F 2 ≤ 9 := h.1.stir
theorem CO.first {F Kd Z Tr Lk Wt T O U P : Int → Int} (h : CO F Kd Z Tr Lk Wt T O U P) : 0 ≤ T 1 ∧ T 1 ≤ 4 := h.1.first
theorem CO.turn {F Kd Z Tr Lk Wt T O U P : Int → Int} (h : CO F Kd Z Tr Lk Wt T O U P) : 0 ≤ T 2 ∧ T 2 ≤ 2000 := h.1.turn
theorem CO.o {F Kd Z Tr Lk Wt T O U P : Int → Int} (h : CO F Kd Z Tr Lk Wt T O U P) {s : Int} (h0 : 0 ≤ s) (h1 : s < 10) : -1 ≤ O s ∧ (O s < F 4 ∨ (F 3 = 0 ∧ O s = 0)) := by
  have := h.1.w h0 h1
  rw [cvw_o ⟨h0, h1⟩] at this
  exact this
theorem CO.u {F Kd Z Tr Lk Wt T O U P : Int → Int} (h : CO F Kd Z Tr Lk Wt T O U P) {g : Int} (h0 : 0 ≤ g) (h1 : g < F 4) : 0 ≤ U g ∧ U g ≤ 99 := by
  have hg := h.g
  have := h.1.r (g := g) h0 (by omega)
  rw [cvw_u ⟨h0, h1⟩ (by omega)] at this
  exact this
theorem CO.k {F Kd Z Tr Lk Wt T O U P : Int → Int} (h : CO F Kd Z Tr Lk Wt T O U P) {s : Int} (h0 : 0 ≤ s) (h1 : s < F 3) : 0 ≤ Kd s ∧ Kd s ≤ 3 := by
  have hg := h.n
  have := h.1.k (s := s) h0 (by omega)
  rw [cvw_k ⟨h0, h1⟩ (by omega)] at this
  exact this
theorem CO.z {F Kd Z Tr Lk Wt T O U P : Int → Int} (h : CO F Kd Z Tr Lk Wt T O U P) {s : Int} (h0 : 0 ≤ s) (h1 : s < F 3) : 0 ≤ Z s ∧ Z s ≤ 9 := by
  have hg := h.n
  have := h.1.z (s := s) h0 (by omega)
  rw [cvw_z ⟨h0, h1⟩ (by omega)] at this
  exact this
theorem CO.w2 {F Kd Z Tr Lk Wt T O U P : Int → Int} (h : CO F Kd Z Tr Lk Wt T O U P) {g s : Int} (g0 : 0 ≤ g) (g1 : g < F 4) (s0 : 0 ≤ s) (s1 : s < F 3) : Wt (g * 10 + s) = pw (cvw F Kd Z Tr Lk T O U P) g s := by
  rw [Int.mul_comm g 10]
  exact h.w g0 g1 s0 s1
theorem CO.l {F Kd Z Tr Lk Wt T O U P : Int → Int} (h : CO F Kd Z Tr Lk Wt T O U P) {g s : Int} (g0 : 0 ≤ g) (g1 : g < F 4) (s0 : 0 ≤ s) (s1 : s < F 3) : Lk (g * 4 + Kd s) = pl (cvw F Kd Z Tr Lk T O U P) g s := by
  have hn := h.n
  have hg := h.g
  have hk := h.k s0 s1
  unfold pl
  rw [cvw_k ⟨s0, s1⟩ (by omega), show 51 + 4 * g + Kd s = 51 + (g * 4 + Kd s) by omega, cvw_l (by omega)]
theorem cvw_setO {F Kd Z Tr Lk T O U P : Int → Int} {s v : Int} (h : 0 ≤ s ∧ s < 10) : cvw F Kd Z Tr Lk T (xup O s v) U P = xup (cvw F Kd Z Tr Lk T O U P) (11 + s) v := by
  funext j
  by_cases hj : j = 11 + s
  · subst hj; rw [cvw_o h, xup_same, xup_same]
  · rw [xup_ne _ _ hj]
    unfold cvw
    by_cases h2 : 11 ≤ j ∧ j < 21
    · rw [if_neg (by omega), if_neg (by omega), if_neg (by omega), if_neg (by omega), if_neg (by omega), if_neg (by omega), if_pos h2, if_neg (by omega), if_neg (by omega), if_neg (by omega), if_neg (by omega), if_neg (by omega), if_neg (by omega), if_pos h2, xup_ne _ _ (by omega)]
    · rw [if_neg h2, if_neg h2]
theorem cvw_setU {F Kd Z Tr Lk T O U P : Int → Int} {g v : Int} (h : 0 ≤ g ∧ g < F 4) (h5 : g < 5) : cvw F Kd Z Tr Lk T O (xup U g v) P = xup (cvw F Kd Z Tr Lk T O U P) (21 + g) v := by
  funext j
  by_cases hj : j = 21 + g
  · subst hj; rw [cvw_u h h5, xup_same, xup_same]
  · rw [xup_ne _ _ hj]
    unfold cvw
    rw [xup_ne U v (show j - 21 ≠ g by omega)]
theorem cvw_setT {F Kd Z Tr Lk T O U P : Int → Int} {v : Int} : cvw F Kd Z Tr Lk (xup T 2 v) O U P = xup (cvw F Kd Z Tr Lk T O U P) 10 v := by
  funext j
  by_cases hj : j = 10
  · subst hj; rfl
  · rw [xup_ne _ _ hj]
    unfold cvw
    rw [if_neg hj, if_neg hj]
    rfl
theorem cvw_setF {F Kd Z Tr Lk T O U P : Int → Int} {v : Int} : cvw F Kd Z Tr Lk (xup T 1 v) O U P = xup (cvw F Kd Z Tr Lk T O U P) 1 v := by
  funext j
  by_cases hj : j = 1
  · subst hj; rfl
  · rw [xup_ne _ _ hj]
    unfold cvw
    rw [if_neg hj, if_neg hj]
    rfl
theorem CO.setO {F Kd Z Tr Lk Wt T O U P : Int → Int} (h : CO F Kd Z Tr Lk Wt T O U P) {s v : Int} (hs : 0 ≤ s ∧ s < 10) (hv : -1 ≤ v ∧ v < F 4) : CO F Kd Z Tr Lk Wt T (xup O s v) U P := by
  refine ⟨?_, h.2⟩
  rw [cvw_setO hs]
  exact SO_own h.1 hs.1 hs.2 hv.1 hv.2
theorem CO.setU {F Kd Z Tr Lk Wt T O U P : Int → Int} (h : CO F Kd Z Tr Lk Wt T O U P) {g v : Int} (hs : 0 ≤ g ∧ g < F 4) (hv : 0 ≤ v ∧ v ≤ 99) : CO F Kd Z Tr Lk Wt T O (xup U g v) P := by
  have hg := h.g
  refine ⟨?_, h.2⟩
  rw [cvw_setU hs (by omega)]
  exact SO_rue h.1 hs.1 (by omega) hv.1 hv.2
theorem CO.setT {F Kd Z Tr Lk Wt T O U P : Int → Int} (h : CO F Kd Z Tr Lk Wt T O U P) {v : Int} (hv : 0 ≤ v ∧ v ≤ 2000) : CO F Kd Z Tr Lk Wt (xup T 2 v) O U P := by
  refine ⟨?_, h.2⟩
  rw [cvw_setT]
  exact SO_up h.1 hv.1 hv.2
theorem CO.setF {F Kd Z Tr Lk Wt T O U P : Int → Int} (h : CO F Kd Z Tr Lk Wt T O U P) {v : Int} (hv : 0 ≤ v ∧ v ≤ 4) : CO F Kd Z Tr Lk Wt (xup T 1 v) O U P := by
  refine ⟨?_, h.2⟩
  rw [cvw_setF]
  exact SO_first h.1 hv.1 hv.2
set_option maxRecDepth 8000 in
theorem sg_8_0 {d : Nat} {I : XI} {L : XL} {D : GD} {post : XQ}  {u1 : Int} (h : ((-2147483648 ≤ u1 ∧ u1 ≤ 2147483647) ∧ ((u1 < 0 → (((0 : Int) = 0 ∨ (0 : Int) = 1) ∧ post (some (xi (0 : Int))) I L (gG D))) ∧ (0 ≤ u1 → (((-2147483648 ≤ u1 ∧ u1 ≤ 2147483647) ∧ (-2147483648 ≤ (I 10 (3 : Int)) ∧ (I 10 (3 : Int)) ≤ 2147483647)) ∧ (((I 10 (3 : Int)) ≤ u1 → (((0 : Int) = 0 ∨ (0 : Int) = 1) ∧ post (some (xi (0 : Int))) I L (gG D))) ∧ (u1 < (I 10 (3 : Int)) → (((1 : Int) = 0 ∨ (1 : Int) = 1) ∧ post (some (xi (1 : Int))) I L (gG D))))))))) : xR d 8 es_8 0 [xr (some 10), xi u1] [] I L (gG D) 0 0 post := xW_R (fun k => false) 9 _ _ _ _ _ _ _ _ _ _ _ _ h
set_option maxRecDepth 8000 in
theorem w_8 {d : Nat} {I : XI} {L : XL} {D : GD} {post : XQ}   {s : Int} (hd : 0 ≤ d) (h : (((-2147483648 ≤ s ∧ s ≤ 2147483647)) ∧ ((s < 0 → post (some (xi (0 : Int))) I L (gG D)) ∧ (0 ≤ s → (((-2147483648 ≤ (I 10 (3 : Int)) ∧ (I 10 (3 : Int)) ≤ 2147483647)) ∧ (((I 10 (3 : Int)) ≤ s → post (some (xi (0 : Int))) I L (gG D)) ∧ (s < (I 10 (3 : Int)) → post (some (xi (1 : Int))) I L (gG D)))))))) : xR d 8 es_8 0 [xr (some 10), xi s] [] I L (gG D) 0 0 post := sg_8_0  (⟨h.1, ⟨fun q631 => ⟨(by decide), (h.2.1 q631)⟩, fun q632 => ⟨⟨h.1, (h.2.2 q632).1⟩, ⟨fun q629 => ⟨(by decide), ((h.2.2 q632).2.1 q629)⟩, fun q630 => ⟨(by decide), ((h.2.2 q632).2.2 q630)⟩⟩⟩⟩⟩)
theorem c_8 {I : XI} {L : XL} {D : GD}   {s : Int} (h : ((0 ≤ I 10 (3 : Int) ∧ I 10 (3 : Int) ≤ 10) ∧ (-2147483648 ≤ s ∧ s ≤ 2147483647))) : xM 0 8 [xr (some 10), xi s] I L (gG D) (0, 0) (xD (some (xi (xb (0 ≤ s ∧ s < I 10 (3 : Int))))) I L (gG D)) := by
  intro d hd
  have h1 := h.1
  have h2 := h.2
  refine w_8 (by omega) ?_
  repeat' first | (with_reducible intro _) | (with_reducible refine And.intro ?_ ?_)
  all_goals first | omega | exact xD_in | assumption | (refine xD_eq ?_ rfl rfl; first | rfl | rw [xb_t (by omega)] | rw [xb_f (by omega)] | (rw [xb_t (by assumption)]) | (rw [xb_f (by assumption)]) | (rw [xb_t (by simp_all; done)]) | (rw [xb_f (by simp_all; done)]))
set_option maxRecDepth 8000 in
theorem sg_9_0 {d : Nat} {I : XI} {L : XL} {D : GD} {post : XQ}  {u1 : Int} (h : ((-2147483648 ≤ u1 ∧ u1 ≤ 2147483647) ∧ ((u1 < 0 → (((0 : Int) = 0 ∨ (0 : Int) = 1) ∧ post (some (xi (0 : Int))) I L (gG D))) ∧ (0 ≤ u1 → (((-2147483648 ≤ u1 ∧ u1 ≤ 2147483647) ∧ (-2147483648 ≤ (I 10 (4 : Int)) ∧ (I 10 (4 : Int)) ≤ 2147483647)) ∧ (((I 10 (4 : Int)) ≤ u1 → (((0 : Int) = 0 ∨ (0 : Int) = 1) ∧ post (some (xi (0 : Int))) I L (gG D))) ∧ (u1 < (I 10 (4 : Int)) → (((1 : Int) = 0 ∨ (1 : Int) = 1) ∧ post (some (xi (1 : Int))) I L (gG D))))))))) : xR d 9 es_9 0 [xr (some 10), xi u1] [] I L (gG D) 0 0 post := xW_R (fun k => false) 9 _ _ _ _ _ _ _ _ _ _ _ _ h
set_option maxRecDepth 8000 in
theorem w_9 {d : Nat} {I : XI} {L : XL} {D : GD} {post : XQ}   {g : Int} (hd : 0 ≤ d) (h : (((-2147483648 ≤ g ∧ g ≤ 2147483647)) ∧ ((g < 0 → post (some (xi (0 : Int))) I L (gG D)) ∧ (0 ≤ g → (((-2147483648 ≤ (I 10 (4 : Int)) ∧ (I 10 (4 : Int)) ≤ 2147483647)) ∧ (((I 10 (4 : Int)) ≤ g → post (some (xi (0 : Int))) I L (gG D)) ∧ (g < (I 10 (4 : Int)) → post (some (xi (1 : Int))) I L (gG D)))))))) : xR d 9 es_9 0 [xr (some 10), xi g] [] I L (gG D) 0 0 post := sg_9_0  (⟨h.1, ⟨fun q635 => ⟨(by decide), (h.2.1 q635)⟩, fun q636 => ⟨⟨h.1, (h.2.2 q636).1⟩, ⟨fun q633 => ⟨(by decide), ((h.2.2 q636).2.1 q633)⟩, fun q634 => ⟨(by decide), ((h.2.2 q636).2.2 q634)⟩⟩⟩⟩⟩)
theorem c_9 {I : XI} {L : XL} {D : GD}   {g : Int} (h : ((0 ≤ I 10 (4 : Int) ∧ I 10 (4 : Int) ≤ 5) ∧ (-2147483648 ≤ g ∧ g ≤ 2147483647))) : xM 0 9 [xr (some 10), xi g] I L (gG D) (0, 0) (xD (some (xi (xb (0 ≤ g ∧ g < I 10 (4 : Int))))) I L (gG D)) := by
  intro d hd
  have h1 := h.1
  have h2 := h.2
  refine w_9 (by omega) ?_
  repeat' first | (with_reducible intro _) | (with_reducible refine And.intro ?_ ?_)
  all_goals first | omega | exact xD_in | assumption | (refine xD_eq ?_ rfl rfl; first | rfl | rw [xb_t (by omega)] | rw [xb_f (by omega)] | (rw [xb_t (by assumption)]) | (rw [xb_f (by assumption)]) | (rw [xb_t (by simp_all; done)]) | (rw [xb_f (by simp_all; done)]))
set_option maxRecDepth 8000 in
theorem sg_10_0 {d : Nat} {I : XI} {L : XL} {D : GD} {post : XQ}  {u1 : Int} {u2 : Int} (h : xR d 10 es_10 2 [xr (some 10), xi u1, xi u2] [xi u1, xr (some 10)] I L (gG D) 0 0 post) : xR d 10 es_10 0 [xr (some 10), xi u1, xi u2] [] I L (gG D) 0 0 post := xW_R (fun k => Nat.beq k 2) 2 _ _ _ _ _ _ _ _ _ _ _ _ h
set_option maxRecDepth 8000 in
theorem sg_10_3 {d : Nat} {I : XI} {L : XL} {D : GD} {post : XQ}  {u1 : Int} {u2 : Int} {w0 : Int} (h : ((-2147483648 ≤ w0 ∧ w0 ≤ 2147483647) ∧ ((w0 = 0 → post (some (xi (0 : Int))) I L (gG D)) ∧ (¬ w0 = 0 → ((-2147483648 ≤ u2 ∧ u2 ≤ 2147483647) ∧ ((u2 < 0 → post (some (xi (0 : Int))) I L (gG D)) ∧ (0 ≤ u2 → (((-2147483648 ≤ u2 ∧ u2 ≤ 2147483647) ∧ (-2147483648 ≤ (4 : Int) ∧ (4 : Int) ≤ 2147483647)) ∧ (((4 : Int) ≤ u2 → post (some (xi (0 : Int))) I L (gG D)) ∧ (u2 < (4 : Int) → ((0 ≤ ((u1 * (4 : Int)) + u2) ∧ ((u1 * (4 : Int)) + u2) < (20 : Int)) ∧ post (some (xi (I 14 ((u1 * (4 : Int)) + u2)))) I L (gG D)))))))))))) : xR d 10 es_10 3 [xr (some 10), xi u1, xi u2] [xi w0] I L (gG D) 0 0 post := xW_R (fun k => Nat.beq k 2) 16 _ _ _ _ _ _ _ _ _ _ _ _ h
set_option maxRecDepth 8000 in
theorem w_10 {d : Nat} {I : XI} {L : XL} {D : GD} {post : XQ}   {g : Int} {kd : Int} (hd : 1 ≤ d) (h : (((0 ≤ I 10 (4 : Int) ∧ I 10 (4 : Int) ≤ 5) ∧ (-2147483648 ≤ g ∧ g ≤ 2147483647)) ∧ (((¬ (0 ≤ g ∧ g < I 10 (4 : Int)) → post (some (xi (0 : Int))) I L (gG D)) ∧ (0 ≤ g ∧ g < I 10 (4 : Int) → (((-2147483648 ≤ kd ∧ kd ≤ 2147483647)) ∧ ((kd < 0 → post (some (xi (0 : Int))) I L (gG D)) ∧ (0 ≤ kd → ((((4 : Int) ≤ kd → post (some (xi (0 : Int))) I L (gG D)) ∧ (kd < (4 : Int) → (((0 ≤ ((g * (4 : Int)) + kd) ∧ ((g * (4 : Int)) + kd) < (20 : Int))) ∧ post (some (xi (I 14 ((g * (4 : Int)) + kd)))) I L (gG D))))))))))))) : xR d 10 es_10 0 [xr (some 10), xi g, xi kd] [] I L (gG D) 0 0 post := sg_10_0  ((xR_cF rfl rfl rfl (c_9 h.1) (by omega) (sg_10_3  ⟨(xb_rg _), ⟨fun q641 => (h.2.1 (xb_0 q641)), fun q642 => ⟨(h.2.2 (xb_n0 q642)).1, ⟨fun q639 => ((h.2.2 (xb_n0 q642)).2.1 q639), fun q640 => ⟨⟨(h.2.2 (xb_n0 q642)).1, (by decide)⟩, ⟨fun q637 => (((h.2.2 (xb_n0 q642)).2.2 q640).1 q637), fun q638 => ⟨(((h.2.2 (xb_n0 q642)).2.2 q640).2 q638).1, (((h.2.2 (xb_n0 q642)).2.2 q640).2 q638).2⟩⟩⟩⟩⟩⟩⟩)))
theorem c_10 {I : XI} {L : XL} {D : GD}   {g : Int} {kd : Int} (h : ((0 ≤ I 10 (4 : Int) ∧ I 10 (4 : Int) ≤ 5) ∧ (0 ≤ g ∧ g < I 10 (4 : Int)) ∧ (0 ≤ kd ∧ kd < 4))) : xM 1 10 [xr (some 10), xi g, xi kd] I L (gG D) (0, 0) (xD (some (xi (I 14 (g * 4 + kd)))) I L (gG D)) := by
  intro d hd
  have h1 := h.1
  have h2 := h.2.1
  have h3 := h.2.2
  refine w_10 (by omega) ?_
  repeat' first | (with_reducible intro _) | (with_reducible refine And.intro ?_ ?_)
  all_goals first | omega | exact xD_in | assumption | (refine xD_eq ?_ rfl rfl; first | rfl | rw [xb_t (by omega)] | rw [xb_f (by omega)] | (rw [xb_t (by assumption)]) | (rw [xb_f (by assumption)]) | (rw [xb_t (by simp_all; done)]) | (rw [xb_f (by simp_all; done)]))
set_option maxRecDepth 8000 in
theorem sg_11_0 {d : Nat} {I : XI} {L : XL} {D : GD} {post : XQ}  {u1 : Int} {u2 : Int} (h : ((-2147483648 ≤ u1 ∧ u1 ≤ 2147483647) ∧ ((u1 < 0 → ((-2147483648 ≤ (0 : Int) ∧ (0 : Int) ≤ 2147483647) ∧ (((0 : Int) = 0 → post (some (xi (0 : Int))) I L (gG D)) ∧ (¬ (0 : Int) = 0 → ((0 ≤ ((u2 * (10 : Int)) + u1) ∧ ((u2 * (10 : Int)) + u1) < (50 : Int)) ∧ post (some (xi (I 15 ((u2 * (10 : Int)) + u1)))) I L (gG D)))))) ∧ (0 ≤ u1 → (((-2147483648 ≤ u1 ∧ u1 ≤ 2147483647) ∧ (-2147483648 ≤ (I 10 (3 : Int)) ∧ (I 10 (3 : Int)) ≤ 2147483647)) ∧ (((I 10 (3 : Int)) ≤ u1 → ((-2147483648 ≤ (0 : Int) ∧ (0 : Int) ≤ 2147483647) ∧ (((0 : Int) = 0 → post (some (xi (0 : Int))) I L (gG D)) ∧ (¬ (0 : Int) = 0 → ((0 ≤ ((u2 * (10 : Int)) + u1) ∧ ((u2 * (10 : Int)) + u1) < (50 : Int)) ∧ post (some (xi (I 15 ((u2 * (10 : Int)) + u1)))) I L (gG D)))))) ∧ (u1 < (I 10 (3 : Int)) → ((-2147483648 ≤ u2 ∧ u2 ≤ 2147483647) ∧ ((u2 < 0 → ((-2147483648 ≤ (0 : Int) ∧ (0 : Int) ≤ 2147483647) ∧ (((0 : Int) = 0 → post (some (xi (0 : Int))) I L (gG D)) ∧ (¬ (0 : Int) = 0 → ((0 ≤ ((u2 * (10 : Int)) + u1) ∧ ((u2 * (10 : Int)) + u1) < (50 : Int)) ∧ post (some (xi (I 15 ((u2 * (10 : Int)) + u1)))) I L (gG D)))))) ∧ (0 ≤ u2 → (((-2147483648 ≤ u2 ∧ u2 ≤ 2147483647) ∧ (-2147483648 ≤ (I 10 (4 : Int)) ∧ (I 10 (4 : Int)) ≤ 2147483647)) ∧ (((I 10 (4 : Int)) ≤ u2 → ((-2147483648 ≤ (0 : Int) ∧ (0 : Int) ≤ 2147483647) ∧ (((0 : Int) = 0 → post (some (xi (0 : Int))) I L (gG D)) ∧ (¬ (0 : Int) = 0 → ((0 ≤ ((u2 * (10 : Int)) + u1) ∧ ((u2 * (10 : Int)) + u1) < (50 : Int)) ∧ post (some (xi (I 15 ((u2 * (10 : Int)) + u1)))) I L (gG D)))))) ∧ (u2 < (I 10 (4 : Int)) → ((-2147483648 ≤ (1 : Int) ∧ (1 : Int) ≤ 2147483647) ∧ (((1 : Int) = 0 → post (some (xi (0 : Int))) I L (gG D)) ∧ (¬ (1 : Int) = 0 → ((0 ≤ ((u2 * (10 : Int)) + u1) ∧ ((u2 * (10 : Int)) + u1) < (50 : Int)) ∧ post (some (xi (I 15 ((u2 * (10 : Int)) + u1)))) I L (gG D)))))))))))))))))) : xR d 11 es_11 0 [xr (some 10), xi u1, xi u2, xt 0] [] I L (gG D) 0 0 post := xW_R (fun k => false) 27 _ _ _ _ _ _ _ _ _ _ _ _ h
set_option maxRecDepth 8000 in
theorem w_11 {d : Nat} {I : XI} {L : XL} {D : GD} {post : XQ}   {s : Int} {g : Int} (hd : 0 ≤ d) (h : (((-2147483648 ≤ s ∧ s ≤ 2147483647)) ∧ ((s < 0 → post (some (xi (0 : Int))) I L (gG D)) ∧ (0 ≤ s → (((-2147483648 ≤ (I 10 (3 : Int)) ∧ (I 10 (3 : Int)) ≤ 2147483647)) ∧ (((I 10 (3 : Int)) ≤ s → post (some (xi (0 : Int))) I L (gG D)) ∧ (s < (I 10 (3 : Int)) → (((-2147483648 ≤ g ∧ g ≤ 2147483647)) ∧ ((g < 0 → post (some (xi (0 : Int))) I L (gG D)) ∧ (0 ≤ g → (((-2147483648 ≤ (I 10 (4 : Int)) ∧ (I 10 (4 : Int)) ≤ 2147483647)) ∧ (((I 10 (4 : Int)) ≤ g → post (some (xi (0 : Int))) I L (gG D)) ∧ (g < (I 10 (4 : Int)) → (((0 ≤ ((g * (10 : Int)) + s) ∧ ((g * (10 : Int)) + s) < (50 : Int))) ∧ post (some (xi (I 15 ((g * (10 : Int)) + s)))) I L (gG D))))))))))))))) : xR d 11 es_11 0 [xr (some 10), xi s, xi g, xt 0] [] I L (gG D) 0 0 post := sg_11_0  (⟨h.1, ⟨fun q654 => ⟨(by decide), ⟨fun _ => (h.2.1 q654), fun q643 => absurd q643 (by decide)⟩⟩, fun q655 => ⟨⟨h.1, (h.2.2 q655).1⟩, ⟨fun q652 => ⟨(by decide), ⟨fun _ => ((h.2.2 q655).2.1 q652), fun q644 => absurd q644 (by decide)⟩⟩, fun q653 => ⟨((h.2.2 q655).2.2 q653).1, ⟨fun q650 => ⟨(by decide), ⟨fun _ => (((h.2.2 q655).2.2 q653).2.1 q650), fun q645 => absurd q645 (by decide)⟩⟩, fun q651 => ⟨⟨((h.2.2 q655).2.2 q653).1, (((h.2.2 q655).2.2 q653).2.2 q651).1⟩, ⟨fun q648 => ⟨(by decide), ⟨fun _ => ((((h.2.2 q655).2.2 q653).2.2 q651).2.1 q648), fun q646 => absurd q646 (by decide)⟩⟩, fun q649 => ⟨(by decide), ⟨fun q647 => absurd q647 (by decide), fun _ => ⟨((((h.2.2 q655).2.2 q653).2.2 q651).2.2 q649).1, ((((h.2.2 q655).2.2 q653).2.2 q651).2.2 q649).2⟩⟩⟩⟩⟩⟩⟩⟩⟩⟩⟩)
theorem c_11 {I : XI} {L : XL} {D : GD}   {s : Int} {g : Int} (h : ((0 ≤ I 10 (3 : Int) ∧ I 10 (3 : Int) ≤ 10) ∧ (0 ≤ I 10 (4 : Int) ∧ I 10 (4 : Int) ≤ 5) ∧ (0 ≤ s ∧ s < I 10 (3 : Int)) ∧ (0 ≤ g ∧ g < I 10 (4 : Int)))) : xM 0 11 [xr (some 10), xi s, xi g] I L (gG D) (0, 0) (xD (some (xi (I 15 (g * 10 + s)))) I L (gG D)) := by
  intro d hd
  have h1 := h.1
  have h2 := h.2.1
  have h3 := h.2.2.1
  have h4 := h.2.2.2
  refine w_11 (by omega) ?_
  repeat' first | (with_reducible intro _) | (with_reducible refine And.intro ?_ ?_)
  all_goals first | omega | exact xD_in | assumption | (refine xD_eq ?_ rfl rfl; first | rfl | rw [xb_t (by omega)] | rw [xb_f (by omega)] | (rw [xb_t (by assumption)]) | (rw [xb_f (by assumption)]) | (rw [xb_t (by simp_all; done)]) | (rw [xb_f (by simp_all; done)]))
set_option maxRecDepth 8000 in
theorem sg_82_0_16 {d : Nat} {I : XI} {L : XL} {D : GD} {post : XQ}   (h : ((-2147483648 ≤ (I 10 (4 : Int)) ∧ (I 10 (4 : Int)) ≤ 2147483647) ∧ (((I 10 (4 : Int)) ≤ 0 → post (some (xi (-1 : Int))) I L (gG D)) ∧ (0 < (I 10 (4 : Int)) → (((-2147483648 ≤ ((I 16 (1 : Int)) + (I 16 (2 : Int))) ∧ ((I 16 (1 : Int)) + (I 16 (2 : Int))) ≤ 2147483647) ∧ (-2147483648 ≤ (I 10 (4 : Int)) ∧ (I 10 (4 : Int)) ≤ 2147483647) ∧ ¬ (I 10 (4 : Int)) = 0) ∧ post (some (xi (Int.tmod ((I 16 (1 : Int)) + (I 16 (2 : Int))) (I 10 (4 : Int))))) I L (gG D)))))) : xR d 82 es_82 0 [xr (some 16)] [] I L (gG D) 0 0 post := xW_R (fun k => false) 15 _ _ _ _ _ _ _ _ _ _ _ _ h
set_option maxRecDepth 8000 in
theorem w_82_16 {d : Nat} {I : XI} {L : XL} {D : GD} {post : XQ}    (hd : 0 ≤ d) (h : (((-2147483648 ≤ (I 10 (4 : Int)) ∧ (I 10 (4 : Int)) ≤ 2147483647)) ∧ (((I 10 (4 : Int)) ≤ 0 → post (some (xi (-1 : Int))) I L (gG D)) ∧ (0 < (I 10 (4 : Int)) → (((-2147483648 ≤ ((I 16 (1 : Int)) + (I 16 (2 : Int))) ∧ ((I 16 (1 : Int)) + (I 16 (2 : Int))) ≤ 2147483647) ∧ ¬ (I 10 (4 : Int)) = 0) ∧ post (some (xi (Int.tmod ((I 16 (1 : Int)) + (I 16 (2 : Int))) (I 10 (4 : Int))))) I L (gG D)))))) : xR d 82 es_82 0 [xr (some 16)] [] I L (gG D) 0 0 post := sg_82_0_16  (⟨h.1, ⟨fun q656 => (h.2.1 q656), fun q657 => ⟨⟨(h.2.2 q657).1.1, h.1, (h.2.2 q657).1.2⟩, (h.2.2 q657).2⟩⟩⟩)
theorem c_82_16 {I : XI} {L : XL} {D : GD}    (h : CO (I 10) (I 11) (I 12) (I 13) (I 14) (I 15) (I 16) (I 17) (I 18) (I 111)) : xM 0 82 [xr (some 16)] I L (gG D) (0, 0) (xD (some (xi (pwhose (cvw (I 10) (I 11) (I 12) (I 13) (I 14) (I 16) (I 17) (I 18) (I 111))))) I L (gG D)) := by
  intro d hd
  have hC := h
  have hn := hC.n
  have hg := hC.g
  have hf := hC.first
  have ht := hC.turn
  refine w_82_16 (by omega) ?_
  repeat' first | (with_reducible intro _) | (with_reducible refine And.intro ?_ ?_)
  all_goals first | omega | skip
  all_goals (refine xD_eq ?_ rfl rfl; rw [show pwhose (cvw (I 10) (I 11) (I 12) (I 13) (I 14) (I 16) (I 17) (I 18) (I 111)) = if I 10 4 = 0 then -1 else Int.tmod (I 16 1 + I 16 2) (I 10 4) from rfl]; first | (rw [if_pos (show I 10 4 = 0 by omega)]; done) | (rw [if_neg (show ¬ I 10 4 = 0 by omega)]; done))
set_option maxRecDepth 8000 in
theorem sg_83_0_16 {d : Nat} {I : XI} {L : XL} {D : GD} {post : XQ}  {u1 : Int} (h : xR d 83 es_83 3 [xr (some 16), xi u1] [xi u1, xr (some 10)] I L (gG D) 0 0 post) : xR d 83 es_83 0 [xr (some 16), xi u1] [] I L (gG D) 0 0 post := xW_R (fun k => Nat.beq k 3) 3 _ _ _ _ _ _ _ _ _ _ _ _ h
set_option maxRecDepth 8000 in
theorem sg_83_4_16 {d : Nat} {I : XI} {L : XL} {D : GD} {post : XQ}  {u1 : Int} {w0 : Int} (h : ((-2147483648 ≤ w0 ∧ w0 ≤ 2147483647) ∧ ((w0 = 0 → (((0 : Int) = 0 ∨ (0 : Int) = 1) ∧ post (some (xi (0 : Int))) I L (gG D))) ∧ (¬ w0 = 0 → ((0 ≤ u1 ∧ u1 < (10 : Int)) ∧ (((-2147483648 ≤ (I 17 u1) ∧ (I 17 u1) ≤ 2147483647) ∧ (-2147483648 ≤ (-1 : Int) ∧ (-1 : Int) ≤ 2147483647)) ∧ ((¬ (I 17 u1) = (-1 : Int) → (((0 : Int) = 0 ∨ (0 : Int) = 1) ∧ post (some (xi (0 : Int))) I L (gG D))) ∧ ((I 17 u1) = (-1 : Int) → (((1 : Int) = 0 ∨ (1 : Int) = 1) ∧ post (some (xi (1 : Int))) I L (gG D)))))))))) : xR d 83 es_83 4 [xr (some 16), xi u1] [xi w0] I L (gG D) 0 0 post := xW_R (fun k => Nat.beq k 3) 10 _ _ _ _ _ _ _ _ _ _ _ _ h
set_option maxRecDepth 8000 in
theorem w_83_16 {d : Nat} {I : XI} {L : XL} {D : GD} {post : XQ}   {s : Int} (hd : 1 ≤ d) (h : (((0 ≤ I 10 (3 : Int) ∧ I 10 (3 : Int) ≤ 10) ∧ (-2147483648 ≤ s ∧ s ≤ 2147483647)) ∧ (((¬ (0 ≤ s ∧ s < I 10 (3 : Int)) → post (some (xi (0 : Int))) I L (gG D)) ∧ (0 ≤ s ∧ s < I 10 (3 : Int) → (((0 ≤ s ∧ s < (10 : Int))) ∧ (((-2147483648 ≤ (I 17 s) ∧ (I 17 s) ≤ 2147483647)) ∧ ((¬ (I 17 s) = (-1 : Int) → post (some (xi (0 : Int))) I L (gG D)) ∧ ((I 17 s) = (-1 : Int) → post (some (xi (1 : Int))) I L (gG D)))))))))) : xR d 83 es_83 0 [xr (some 16), xi s] [] I L (gG D) 0 0 post := sg_83_0_16  ((xR_cF rfl rfl rfl (c_8 h.1) (by omega) (sg_83_4_16  ⟨(xb_rg _), ⟨fun q660 => ⟨(by decide), (h.2.1 (xb_0 q660))⟩, fun q661 => ⟨(h.2.2 (xb_n0 q661)).1, ⟨⟨(h.2.2 (xb_n0 q661)).2.1, (by decide)⟩, ⟨fun q658 => ⟨(by decide), ((h.2.2 (xb_n0 q661)).2.2.1 q658)⟩, fun q659 => ⟨(by decide), ((h.2.2 (xb_n0 q661)).2.2.2 q659)⟩⟩⟩⟩⟩⟩)))
theorem c_83_16 {I : XI} {L : XL} {D : GD}   {s : Int} (h : (CO (I 10) (I 11) (I 12) (I 13) (I 14) (I 15) (I 16) (I 17) (I 18) (I 111) ∧ (-2147483648 ≤ s ∧ s ≤ 2147483647))) : xM 1 83 [xr (some 16), xi s] I L (gG D) (0, 0) (xD (some (xi (xb ((0 ≤ s ∧ s < I 10 (3 : Int)) ∧ I 17 s = -1)))) I L (gG D)) := by
  intro d hd
  obtain ⟨hC, h1⟩ := h
  have hn := hC.n
  have hg := hC.g
  have ho := fun h0 h1 => hC.o (s := s) h0 h1
  refine w_83_16 (by omega) ?_
  repeat' first | (with_reducible intro _) | (with_reducible refine And.intro ?_ ?_)
  all_goals first | omega | exact ⟨hn, h1⟩ | (have := ho (by omega) (by omega); omega) | (refine xD_eq ?_ rfl rfl; first | rfl | rw [xb_t (by omega)] | rw [xb_f (by omega)] | (rw [xb_t (by assumption)]) | (rw [xb_f (by assumption)]) | (rw [xb_t (by simp_all; done)]) | (rw [xb_f (by simp_all; done)]))
set_option maxRecDepth 8000 in
theorem sg_84_0_16 {d : Nat} {I : XI} {L : XL} {D : GD} {post : XQ}  {u1 : Int} (h : xR d 84 es_84 3 [xr (some 16), xi u1] [xi u1, xr (some 10)] I L (gG D) 0 0 post) : xR d 84 es_84 0 [xr (some 16), xi u1] [] I L (gG D) 0 0 post := xW_R (fun k => Nat.beq k 3) 3 _ _ _ _ _ _ _ _ _ _ _ _ h
set_option maxRecDepth 8000 in
theorem sg_84_4_16 {d : Nat} {I : XI} {L : XL} {D : GD} {post : XQ}  {u1 : Int} {w0 : Int} (h : ((-2147483648 ≤ w0 ∧ w0 ≤ 2147483647) ∧ ((w0 = 0 → post (some (xi (-1 : Int))) I L (gG D)) ∧ (¬ w0 = 0 → ((0 ≤ u1 ∧ u1 < (10 : Int)) ∧ post (some (xi (I 17 u1))) I L (gG D)))))) : xR d 84 es_84 4 [xr (some 16), xi u1] [xi w0] I L (gG D) 0 0 post := xW_R (fun k => Nat.beq k 3) 7 _ _ _ _ _ _ _ _ _ _ _ _ h
set_option maxRecDepth 8000 in
theorem w_84_16 {d : Nat} {I : XI} {L : XL} {D : GD} {post : XQ}   {s : Int} (hd : 1 ≤ d) (h : (((0 ≤ I 10 (3 : Int) ∧ I 10 (3 : Int) ≤ 10) ∧ (-2147483648 ≤ s ∧ s ≤ 2147483647)) ∧ (((¬ (0 ≤ s ∧ s < I 10 (3 : Int)) → post (some (xi (-1 : Int))) I L (gG D)) ∧ (0 ≤ s ∧ s < I 10 (3 : Int) → (((0 ≤ s ∧ s < (10 : Int))) ∧ post (some (xi (I 17 s))) I L (gG D))))))) : xR d 84 es_84 0 [xr (some 16), xi s] [] I L (gG D) 0 0 post := sg_84_0_16  ((xR_cF rfl rfl rfl (c_8 h.1) (by omega) (sg_84_4_16  ⟨(xb_rg _), ⟨fun q662 => (h.2.1 (xb_0 q662)), fun q663 => ⟨(h.2.2 (xb_n0 q663)).1, (h.2.2 (xb_n0 q663)).2⟩⟩⟩)))
theorem c_84_16 {I : XI} {L : XL} {D : GD}   {s : Int} (h : (CO (I 10) (I 11) (I 12) (I 13) (I 14) (I 15) (I 16) (I 17) (I 18) (I 111) ∧ (-2147483648 ≤ s ∧ s ≤ 2147483647))) : xM 1 84 [xr (some 16), xi s] I L (gG D) (0, 0) (xD (some (xi (if (0 ≤ s ∧ s < I 10 (3 : Int)) then I 17 s else -1))) I L (gG D)) := by
  intro d hd
  obtain ⟨hC, h1⟩ := h
  have hn := hC.n
  have hg := hC.g
  refine w_84_16 (by omega) ?_
  repeat' first | (with_reducible intro _) | (with_reducible refine And.intro ?_ ?_)
  all_goals first | omega | exact ⟨hn, h1⟩ | (rw [if_pos (by assumption)]; exact xD_in) | (rw [if_neg (by assumption)]; exact xD_in)
set_option maxRecDepth 8000 in
theorem sg_85_0_16 {d : Nat} {I : XI} {L : XL} {D : GD} {post : XQ}  {u1 : Int} (h : xR d 85 es_85 4 [xr (some 16), xi u1, xi (0 : Int), xi (0 : Int)] [] I L (gG D) 0 0 post) : xR d 85 es_85 0 [xr (some 16), xi u1, xt 0, xt 0] [] I L (gG D) 0 0 post := xW_R (fun k => Nat.beq k 4) 4 _ _ _ _ _ _ _ _ _ _ _ _ h
set_option maxRecDepth 8000 in
theorem w_85_16 {d : Nat} {I : XI} {L : XL} {D : GD} {post : XQ}   {g : Int} (hd : 0 ≤ d) (h : xR d 85 es_85 4 [xr (some 16), xi g, xi (0 : Int), xi (0 : Int)] [] I L (gG D) 0 0 post) : xR d 85 es_85 0 [xr (some 16), xi g, xt 0, xt 0] [] I L (gG D) 0 0 post := sg_85_0_16  (h)
set_option maxRecDepth 8000 in
theorem sg_85_4_16 {d : Nat} {I : XI} {L : XL} {D : GD} {post : XQ}  {u1 : Int} {u2 : Int} {u3 : Int} (h : (((-2147483648 ≤ u3 ∧ u3 ≤ 2147483647) ∧ (-2147483648 ≤ (I 10 (3 : Int)) ∧ (I 10 (3 : Int)) ≤ 2147483647)) ∧ (((I 10 (3 : Int)) ≤ u3 → post (some (xi u2)) I L (gG D)) ∧ (u3 < (I 10 (3 : Int)) → ((0 ≤ u3 ∧ u3 < (10 : Int)) ∧ (((-2147483648 ≤ (I 17 u3) ∧ (I 17 u3) ≤ 2147483647) ∧ (-2147483648 ≤ u1 ∧ u1 ≤ 2147483647)) ∧ ((¬ (I 17 u3) = u1 → xR d 85 es_85 4 [xr (some 16), xi u1, xi u2, xi (u3 + (1 : Int))] [] I L (gG D) 0 0 post) ∧ ((I 17 u3) = u1 → xR d 85 es_85 4 [xr (some 16), xi u1, xi (xior u2 (xshl (1 : Int) u3)), xi (u3 + (1 : Int))] [] I L (gG D) 0 0 post)))))))) : xR d 85 es_85 4 [xr (some 16), xi u1, xi u2, xi u3] [] I L (gG D) 0 0 post := xW_R (fun k => Nat.beq k 4) 19 _ _ _ _ _ _ _ _ _ _ _ _ h
set_option maxRecDepth 8000 in
theorem b_85_16 {d : Nat} {I : XI} {L : XL} {D : GD} {post : XQ}   {g : Int} {u : Int} {v : Int} (hd : 0 ≤ d) (h : (((-2147483648 ≤ v ∧ v ≤ 2147483647) ∧ (-2147483648 ≤ (I 10 (3 : Int)) ∧ (I 10 (3 : Int)) ≤ 2147483647)) ∧ (((I 10 (3 : Int)) ≤ v → post (some (xi u)) I L (gG D)) ∧ (v < (I 10 (3 : Int)) → (((0 ≤ v ∧ v < (10 : Int))) ∧ (((-2147483648 ≤ (I 17 v) ∧ (I 17 v) ≤ 2147483647) ∧ (-2147483648 ≤ g ∧ g ≤ 2147483647)) ∧ ((¬ (I 17 v) = g → xR d 85 es_85 4 [xr (some 16), xi g, xi u, xi (v + (1 : Int))] [] I L (gG D) 0 0 post) ∧ ((I 17 v) = g → xR d 85 es_85 4 [xr (some 16), xi g, xi (xior u (xshl (1 : Int) v)), xi (v + (1 : Int))] [] I L (gG D) 0 0 post)))))))) : xR d 85 es_85 4 [xr (some 16), xi g, xi u, xi v] [] I L (gG D) 0 0 post := sg_85_4_16  (⟨⟨h.1.1, h.1.2⟩, ⟨fun q666 => (h.2.1 q666), fun q667 => ⟨(h.2.2 q667).1, ⟨⟨(h.2.2 q667).2.1.1, (h.2.2 q667).2.1.2⟩, ⟨fun q664 => ((h.2.2 q667).2.2.1 q664), fun q665 => ((h.2.2 q667).2.2.2 q665)⟩⟩⟩⟩⟩)
theorem c_85_16 {I : XI} {L : XL} {D : GD}   {g : Int} (h : (CO (I 10) (I 11) (I 12) (I 13) (I 14) (I 15) (I 16) (I 17) (I 18) (I 111) ∧ (-2147483648 ≤ g ∧ g ≤ 2147483647))) : xM 0 85 [xr (some 16), xi g] I L (gG D) (0, 0) (xD (some (xi (pslices (cvw (I 10) (I 11) (I 12) (I 13) (I 14) (I 16) (I 17) (I 18) (I 111)) g))) I L (gG D)) := by
  intro d hd
  obtain ⟨hC, h1⟩ := h
  have hn := hC.n
  have hg := hC.g
  refine w_85_16 (by omega) ?_
  have key : ∀ k : Nat, k ≤ (I 10 3).toNat → xR d 85 es_85 4 [xr (some 16), xi g, xi (psl (cvw (I 10) (I 11) (I 12) (I 13) (I 14) (I 16) (I 17) (I 18) (I 111)) g k), xi (k : Int)] [] I L (gG D) 0 0 (xD (some (xi (pslices (cvw (I 10) (I 11) (I 12) (I 13) (I 14) (I 16) (I 17) (I 18) (I 111)) g))) I L (gG D)) := by
    refine xfor ?_ ?_
    · refine b_85_16 (by omega) ?_
      repeat' first | (with_reducible intro _) | (with_reducible refine And.intro ?_ ?_)
      all_goals first | omega | assumption | skip
      exact xD_in
    · intro k hk ih 
      have ho := hC.o (s := (k : Int)) (by omega) (by omega)
      have e := psl_succ (a := (cvw (I 10) (I 11) (I 12) (I 13) (I 14) (I 16) (I 17) (I 18) (I 111))) (g := g) (n := k) (by omega)
      rw [cvw_o (by omega)] at e
      refine b_85_16 (by omega) ?_
      repeat' first | (with_reducible intro _) | (with_reducible refine And.intro ?_ ?_)
      all_goals first | omega | assumption | skip
      all_goals first | (rw [if_pos (by assumption)] at e; rw [e] at ih; exact ih) | (rw [if_neg (by assumption)] at e; rw [e] at ih; exact ih)
  exact key 0 (Nat.zero_le _)
set_option maxRecDepth 8000 in
theorem sg_86_0_16 {d : Nat} {I : XI} {L : XL} {D : GD} {post : XQ}  {u1 : Int} (h : xR d 86 es_86 4 [xr (some 16), xi u1, xi (0 : Int), xi (0 : Int)] [] I L (gG D) 0 0 post) : xR d 86 es_86 0 [xr (some 16), xi u1, xt 0, xt 0] [] I L (gG D) 0 0 post := xW_R (fun k => Nat.beq k 4 || Nat.beq k 20) 4 _ _ _ _ _ _ _ _ _ _ _ _ h
set_option maxRecDepth 8000 in
theorem w_86_16 {d : Nat} {I : XI} {L : XL} {D : GD} {post : XQ}   {g : Int} (hd : 0 ≤ d) (h : xR d 86 es_86 4 [xr (some 16), xi g, xi (0 : Int), xi (0 : Int)] [] I L (gG D) 0 0 post) : xR d 86 es_86 0 [xr (some 16), xi g, xt 0, xt 0] [] I L (gG D) 0 0 post := sg_86_0_16  (h)
set_option maxRecDepth 8000 in
theorem sg_86_4_16 {d : Nat} {I : XI} {L : XL} {D : GD} {post : XQ}  {u1 : Int} {u2 : Int} {u3 : Int} (h : (((-2147483648 ≤ u3 ∧ u3 ≤ 2147483647) ∧ (-2147483648 ≤ (I 10 (3 : Int)) ∧ (I 10 (3 : Int)) ≤ 2147483647)) ∧ (((I 10 (3 : Int)) ≤ u3 → post (some (xi u2)) I L (gG D)) ∧ (u3 < (I 10 (3 : Int)) → ((0 ≤ u3 ∧ u3 < (10 : Int)) ∧ (((-2147483648 ≤ (I 17 u3) ∧ (I 17 u3) ≤ 2147483647) ∧ (-2147483648 ≤ u1 ∧ u1 ≤ 2147483647)) ∧ ((¬ (I 17 u3) = u1 → xR d 86 es_86 4 [xr (some 16), xi u1, xi u2, xi (u3 + (1 : Int))] [] I L (gG D) 0 0 post) ∧ ((I 17 u3) = u1 → xR d 86 es_86 20 [xr (some 16), xi u1, xi u2, xi u3] [xi u1, xi u3, xr (some 10), xi u2] I L (gG D) 0 0 post)))))))) : xR d 86 es_86 4 [xr (some 16), xi u1, xi u2, xi u3] [] I L (gG D) 0 0 post := xW_R (fun k => Nat.beq k 4 || Nat.beq k 20) 16 _ _ _ _ _ _ _ _ _ _ _ _ h
set_option maxRecDepth 8000 in
theorem sg_86_21_16 {d : Nat} {I : XI} {L : XL} {D : GD} {post : XQ}  {u1 : Int} {u2 : Int} {u3 : Int} {w0 : Int} {w1 : Int} (h : xR d 86 es_86 4 [xr (some 16), xi u1, xi (w0 + w1), xi (u3 + (1 : Int))] [] I L (gG D) 0 0 post) : xR d 86 es_86 21 [xr (some 16), xi u1, xi u2, xi u3] [xi w1, xi w0] I L (gG D) 0 0 post := xW_R (fun k => Nat.beq k 4 || Nat.beq k 20) 4 _ _ _ _ _ _ _ _ _ _ _ _ h
set_option maxRecDepth 8000 in
theorem b_86_16 {d : Nat} {I : XI} {L : XL} {D : GD} {post : XQ}   {g : Int} {u : Int} {v : Int} (hd : 1 ≤ d) (h : (((-2147483648 ≤ v ∧ v ≤ 2147483647) ∧ (-2147483648 ≤ (I 10 (3 : Int)) ∧ (I 10 (3 : Int)) ≤ 2147483647)) ∧ (((I 10 (3 : Int)) ≤ v → post (some (xi u)) I L (gG D)) ∧ (v < (I 10 (3 : Int)) → (((0 ≤ v ∧ v < (10 : Int))) ∧ (((-2147483648 ≤ (I 17 v) ∧ (I 17 v) ≤ 2147483647) ∧ (-2147483648 ≤ g ∧ g ≤ 2147483647)) ∧ ((¬ (I 17 v) = g → xR d 86 es_86 4 [xr (some 16), xi g, xi u, xi (v + (1 : Int))] [] I L (gG D) 0 0 post) ∧ ((I 17 v) = g → (((0 ≤ I 10 (3 : Int) ∧ I 10 (3 : Int) ≤ 10) ∧ (0 ≤ I 10 (4 : Int) ∧ I 10 (4 : Int) ≤ 5) ∧ (0 ≤ v ∧ v < I 10 (3 : Int)) ∧ (0 ≤ g ∧ g < I 10 (4 : Int))) ∧ xR d 86 es_86 4 [xr (some 16), xi g, xi (u + (I 15 (g * 10 + v))), xi (v + (1 : Int))] [] I L (gG D) 0 0 post))))))))) : xR d 86 es_86 4 [xr (some 16), xi g, xi u, xi v] [] I L (gG D) 0 0 post := sg_86_4_16  (⟨⟨h.1.1, h.1.2⟩, ⟨fun q670 => (h.2.1 q670), fun q671 => ⟨(h.2.2 q671).1, ⟨⟨(h.2.2 q671).2.1.1, (h.2.2 q671).2.1.2⟩, ⟨fun q668 => ((h.2.2 q671).2.2.1 q668), fun q669 => (xR_cF rfl rfl rfl (c_11 ((h.2.2 q671).2.2.2 q669).1) (by omega) (sg_86_21_16  ((h.2.2 q671).2.2.2 q669).2))⟩⟩⟩⟩⟩)
theorem c_86_16 {I : XI} {L : XL} {D : GD}   {g : Int} (h : (CO (I 10) (I 11) (I 12) (I 13) (I 14) (I 15) (I 16) (I 17) (I 18) (I 111) ∧ (0 ≤ g ∧ g < I 10 (4 : Int)))) : xM 1 86 [xr (some 16), xi g] I L (gG D) (0, 0) (xD (some (xi (phas (cvw (I 10) (I 11) (I 12) (I 13) (I 14) (I 16) (I 17) (I 18) (I 111)) g))) I L (gG D)) := by
  intro d hd
  obtain ⟨hC, h1⟩ := h
  have hn := hC.n
  have hg := hC.g
  refine w_86_16 (by omega) ?_
  have key : ∀ k : Nat, k ≤ (I 10 3).toNat → xR d 86 es_86 4 [xr (some 16), xi g, xi (phs (cvw (I 10) (I 11) (I 12) (I 13) (I 14) (I 16) (I 17) (I 18) (I 111)) g k), xi (k : Int)] [] I L (gG D) 0 0 (xD (some (xi (phas (cvw (I 10) (I 11) (I 12) (I 13) (I 14) (I 16) (I 17) (I 18) (I 111)) g))) I L (gG D)) := by
    refine xfor ?_ ?_
    · refine b_86_16 (by omega) ?_
      repeat' first | (with_reducible intro _) | (with_reducible refine And.intro ?_ ?_)
      all_goals first | omega | assumption | skip
      rw [phas_eq hC.1]
      exact xD_in
    · intro k hk ih 
      have ho := hC.o (s := (k : Int)) (by omega) (by omega)
      have hw := hC.w2 (g := g) (s := (k : Int)) (by omega) (by omega) (by omega) (by omega)
      have e : phs (cvw (I 10) (I 11) (I 12) (I 13) (I 14) (I 16) (I 17) (I 18) (I 111)) g (k + 1) = phs (cvw (I 10) (I 11) (I 12) (I 13) (I 14) (I 16) (I 17) (I 18) (I 111)) g k + (if (cvw (I 10) (I 11) (I 12) (I 13) (I 14) (I 16) (I 17) (I 18) (I 111)) (11 + (k : Int)) = g then pw (cvw (I 10) (I 11) (I 12) (I 13) (I 14) (I 16) (I 17) (I 18) (I 111)) g (k : Int) else 0) := rfl
      rw [cvw_o (by omega)] at e
      have hG : (0 ≤ I 10 3 ∧ I 10 3 ≤ 10) ∧ (0 ≤ I 10 4 ∧ I 10 4 ≤ 5) ∧ (0 ≤ (k : Int) ∧ (k : Int) < I 10 3) ∧ (0 ≤ g ∧ g < I 10 4) := ⟨hn, hg, by omega, h1⟩
      refine b_86_16 (by omega) ?_
      repeat' first | (with_reducible intro _) | (with_reducible refine And.intro ?_ ?_)
      all_goals first | omega | assumption | skip
      all_goals first | (rw [if_pos (by assumption)] at e; rw [e, ← hw] at ih; exact ih) | (rw [if_neg (by assumption), Int.add_zero] at e; rw [e] at ih; exact ih)
  exact key 0 (Nat.zero_le _)
set_option maxRecDepth 8000 in
theorem sg_87_0_16 {d : Nat} {I : XI} {L : XL} {D : GD} {post : XQ}  {u1 : Int} (h : xR d 87 es_87 3 [xr (some 16), xi u1] [xi u1, xr (some 10)] I L (gG D) 0 0 post) : xR d 87 es_87 0 [xr (some 16), xi u1] [] I L (gG D) 0 0 post := xW_R (fun k => Nat.beq k 3 || Nat.beq k 7) 3 _ _ _ _ _ _ _ _ _ _ _ _ h
set_option maxRecDepth 8000 in
theorem sg_87_4_16 {d : Nat} {I : XI} {L : XL} {D : GD} {post : XQ}  {u1 : Int} {w0 : Int} (h : ((-2147483648 ≤ w0 ∧ w0 ≤ 2147483647) ∧ ((w0 = 0 → (((0 : Int) = 0 ∨ (0 : Int) = 1) ∧ post (some (xi (0 : Int))) I L (gG D))) ∧ (¬ w0 = 0 → xR d 87 es_87 7 [xr (some 16), xi u1] [xi u1, xr (some 16)] I L (gG D) 0 0 post)))) : xR d 87 es_87 4 [xr (some 16), xi u1] [xi w0] I L (gG D) 0 0 post := xW_R (fun k => Nat.beq k 3 || Nat.beq k 7) 3 _ _ _ _ _ _ _ _ _ _ _ _ h
set_option maxRecDepth 8000 in
theorem sg_87_8_16 {d : Nat} {I : XI} {L : XL} {D : GD} {post : XQ}  {u1 : Int} {w0 : Int} (h : ((0 ≤ u1 ∧ u1 < (5 : Int)) ∧ (((-2147483648 ≤ w0 ∧ w0 ≤ 2147483647) ∧ (-2147483648 ≤ (I 18 u1) ∧ (I 18 u1) ≤ 2147483647)) ∧ ((w0 < (I 18 u1) → (((0 : Int) = 0 ∨ (0 : Int) = 1) ∧ post (some (xi (0 : Int))) I L (gG D))) ∧ ((I 18 u1) ≤ w0 → (((1 : Int) = 0 ∨ (1 : Int) = 1) ∧ post (some (xi (1 : Int))) I L (gG D))))))) : xR d 87 es_87 8 [xr (some 16), xi u1] [xi w0] I L (gG D) 0 0 post := xW_R (fun k => Nat.beq k 3 || Nat.beq k 7) 8 _ _ _ _ _ _ _ _ _ _ _ _ h
set_option maxRecDepth 8000 in
theorem w_87_16 {d : Nat} {I : XI} {L : XL} {D : GD} {post : XQ}   {g : Int} (hd : 2 ≤ d) (h : (((0 ≤ I 10 (4 : Int) ∧ I 10 (4 : Int) ≤ 5) ∧ (-2147483648 ≤ g ∧ g ≤ 2147483647)) ∧ (((¬ (0 ≤ g ∧ g < I 10 (4 : Int)) → post (some (xi (0 : Int))) I L (gG D)) ∧ (0 ≤ g ∧ g < I 10 (4 : Int) → ((CO (I 10) (I 11) (I 12) (I 13) (I 14) (I 15) (I 16) (I 17) (I 18) (I 111) ∧ (0 ≤ g ∧ g < I 10 (4 : Int))) ∧ (((0 ≤ g ∧ g < (5 : Int))) ∧ (((-2147483648 ≤ (phas (cvw (I 10) (I 11) (I 12) (I 13) (I 14) (I 16) (I 17) (I 18) (I 111)) g) ∧ (phas (cvw (I 10) (I 11) (I 12) (I 13) (I 14) (I 16) (I 17) (I 18) (I 111)) g) ≤ 2147483647) ∧ (-2147483648 ≤ (I 18 g) ∧ (I 18 g) ≤ 2147483647)) ∧ (((phas (cvw (I 10) (I 11) (I 12) (I 13) (I 14) (I 16) (I 17) (I 18) (I 111)) g) < (I 18 g) → post (some (xi (0 : Int))) I L (gG D)) ∧ ((I 18 g) ≤ (phas (cvw (I 10) (I 11) (I 12) (I 13) (I 14) (I 16) (I 17) (I 18) (I 111)) g) → post (some (xi (1 : Int))) I L (gG D))))))))))) : xR d 87 es_87 0 [xr (some 16), xi g] [] I L (gG D) 0 0 post := sg_87_0_16  ((xR_cF rfl rfl rfl (c_9 h.1) (by omega) (sg_87_4_16  ⟨(xb_rg _), ⟨fun q674 => ⟨(by decide), (h.2.1 (xb_0 q674))⟩, fun q675 => (xR_cF rfl rfl rfl (c_86_16 (h.2.2 (xb_n0 q675)).1) (by omega) (sg_87_8_16  ⟨(h.2.2 (xb_n0 q675)).2.1, ⟨⟨(h.2.2 (xb_n0 q675)).2.2.1.1, (h.2.2 (xb_n0 q675)).2.2.1.2⟩, ⟨fun q672 => ⟨(by decide), ((h.2.2 (xb_n0 q675)).2.2.2.1 q672)⟩, fun q673 => ⟨(by decide), ((h.2.2 (xb_n0 q675)).2.2.2.2 q673)⟩⟩⟩⟩))⟩⟩)))
theorem c_87_16 {I : XI} {L : XL} {D : GD}   {g : Int} (h : (CO (I 10) (I 11) (I 12) (I 13) (I 14) (I 15) (I 16) (I 17) (I 18) (I 111) ∧ (0 ≤ g ∧ g < I 10 (4 : Int)))) : xM 2 87 [xr (some 16), xi g] I L (gG D) (0, 0) (xD (some (xi (xb ((cvw (I 10) (I 11) (I 12) (I 13) (I 14) (I 16) (I 17) (I 18) (I 111)) (21 + g) ≤ phas (cvw (I 10) (I 11) (I 12) (I 13) (I 14) (I 16) (I 17) (I 18) (I 111)) g)))) I L (gG D)) := by
  intro d hd
  obtain ⟨hC, h1⟩ := h
  have hn := hC.n
  have hg := hC.g
  have hu := hC.u h1.1 h1.2
  have hh := phas_rg hC.1 h1.1 (by omega)
  rw [show (cvw (I 10) (I 11) (I 12) (I 13) (I 14) (I 16) (I 17) (I 18) (I 111)) (21 + g) = I 18 g from cvw_u h1 (by omega)]
  refine w_87_16 (by omega) ?_
  repeat' first | (with_reducible intro _) | (with_reducible refine And.intro ?_ ?_)
  all_goals first | omega | exact ⟨hg, by omega⟩ | exact ⟨hC, h1⟩ | assumption | (refine xD_eq ?_ rfl rfl; first | rfl | rw [xb_t (by omega)] | rw [xb_f (by omega)] | (rw [xb_t (by assumption)]) | (rw [xb_f (by assumption)]) | (rw [xb_t (by simp_all; done)]) | (rw [xb_f (by simp_all; done)]))
set_option maxRecDepth 8000 in
theorem sg_88_0_16 {d : Nat} {I : XI} {L : XL} {D : GD} {post : XQ}   (h : xR d 88 es_88 4 [xr (some 16), xi (0 : Int), xi (0 : Int)] [] I L (gG D) 0 0 post) : xR d 88 es_88 0 [xr (some 16), xt 0, xt 0] [] I L (gG D) 0 0 post := xW_R (fun k => Nat.beq k 4 || Nat.beq k 11) 4 _ _ _ _ _ _ _ _ _ _ _ _ h
set_option maxRecDepth 8000 in
theorem w_88_16 {d : Nat} {I : XI} {L : XL} {D : GD} {post : XQ}    (hd : 0 ≤ d) (h : xR d 88 es_88 4 [xr (some 16), xi (0 : Int), xi (0 : Int)] [] I L (gG D) 0 0 post) : xR d 88 es_88 0 [xr (some 16), xt 0, xt 0] [] I L (gG D) 0 0 post := sg_88_0_16  (h)
set_option maxRecDepth 8000 in
theorem sg_88_4_16 {d : Nat} {I : XI} {L : XL} {D : GD} {post : XQ}  {u1 : Int} {u2 : Int} (h : (((-2147483648 ≤ u2 ∧ u2 ≤ 2147483647) ∧ (-2147483648 ≤ (I 10 (4 : Int)) ∧ (I 10 (4 : Int)) ≤ 2147483647)) ∧ (((I 10 (4 : Int)) ≤ u2 → post (some (xi u1)) I L (gG D)) ∧ (u2 < (I 10 (4 : Int)) → xR d 88 es_88 11 [xr (some 16), xi u1, xi u2] [xi u2, xr (some 16)] I L (gG D) 0 0 post)))) : xR d 88 es_88 4 [xr (some 16), xi u1, xi u2] [] I L (gG D) 0 0 post := xW_R (fun k => Nat.beq k 4 || Nat.beq k 11) 7 _ _ _ _ _ _ _ _ _ _ _ _ h
set_option maxRecDepth 8000 in
theorem sg_88_12_16 {d : Nat} {I : XI} {L : XL} {D : GD} {post : XQ}  {u1 : Int} {u2 : Int} {w0 : Int} (h : ((-2147483648 ≤ w0 ∧ w0 ≤ 2147483647) ∧ ((w0 = 0 → xR d 88 es_88 4 [xr (some 16), xi u1, xi (u2 + (1 : Int))] [] I L (gG D) 0 0 post) ∧ (¬ w0 = 0 → xR d 88 es_88 4 [xr (some 16), xi (xior u1 (xshl (1 : Int) u2)), xi (u2 + (1 : Int))] [] I L (gG D) 0 0 post)))) : xR d 88 es_88 12 [xr (some 16), xi u1, xi u2] [xi w0] I L (gG D) 0 0 post := xW_R (fun k => Nat.beq k 4 || Nat.beq k 11) 9 _ _ _ _ _ _ _ _ _ _ _ _ h
set_option maxRecDepth 8000 in
theorem b_88_16 {d : Nat} {I : XI} {L : XL} {D : GD} {post : XQ}   {u : Int} {v : Int} (hd : 3 ≤ d) (h : (((-2147483648 ≤ v ∧ v ≤ 2147483647) ∧ (-2147483648 ≤ (I 10 (4 : Int)) ∧ (I 10 (4 : Int)) ≤ 2147483647)) ∧ (((I 10 (4 : Int)) ≤ v → post (some (xi u)) I L (gG D)) ∧ (v < (I 10 (4 : Int)) → ((CO (I 10) (I 11) (I 12) (I 13) (I 14) (I 15) (I 16) (I 17) (I 18) (I 111) ∧ (0 ≤ v ∧ v < I 10 (4 : Int))) ∧ (((¬ ((cvw (I 10) (I 11) (I 12) (I 13) (I 14) (I 16) (I 17) (I 18) (I 111)) (21 + v) ≤ phas (cvw (I 10) (I 11) (I 12) (I 13) (I 14) (I 16) (I 17) (I 18) (I 111)) v) → xR d 88 es_88 4 [xr (some 16), xi u, xi (v + (1 : Int))] [] I L (gG D) 0 0 post) ∧ ((cvw (I 10) (I 11) (I 12) (I 13) (I 14) (I 16) (I 17) (I 18) (I 111)) (21 + v) ≤ phas (cvw (I 10) (I 11) (I 12) (I 13) (I 14) (I 16) (I 17) (I 18) (I 111)) v → xR d 88 es_88 4 [xr (some 16), xi (xior u (xshl (1 : Int) v)), xi (v + (1 : Int))] [] I L (gG D) 0 0 post)))))))) : xR d 88 es_88 4 [xr (some 16), xi u, xi v] [] I L (gG D) 0 0 post := sg_88_4_16  (⟨⟨h.1.1, h.1.2⟩, ⟨fun q678 => (h.2.1 q678), fun q679 => (xR_cF rfl rfl rfl (c_87_16 (h.2.2 q679).1) (by omega) (sg_88_12_16  ⟨(xb_rg _), ⟨fun q676 => ((h.2.2 q679).2.1 (xb_0 q676)), fun q677 => ((h.2.2 q679).2.2 (xb_n0 q677))⟩⟩))⟩⟩)
theorem c_88_16 {I : XI} {L : XL} {D : GD}    (h : CO (I 10) (I 11) (I 12) (I 13) (I 14) (I 15) (I 16) (I 17) (I 18) (I 111)) : xM 3 88 [xr (some 16)] I L (gG D) (0, 0) (xD (some (xi (pcontent (cvw (I 10) (I 11) (I 12) (I 13) (I 14) (I 16) (I 17) (I 18) (I 111))))) I L (gG D)) := by
  intro d hd
  have hC := h
  have hn := hC.n
  have hg := hC.g
  refine w_88_16 (by omega) ?_
  have key : ∀ k : Nat, k ≤ (I 10 4).toNat → xR d 88 es_88 4 [xr (some 16), xi (pcont (cvw (I 10) (I 11) (I 12) (I 13) (I 14) (I 16) (I 17) (I 18) (I 111)) k), xi (k : Int)] [] I L (gG D) 0 0 (xD (some (xi (pcontent (cvw (I 10) (I 11) (I 12) (I 13) (I 14) (I 16) (I 17) (I 18) (I 111))))) I L (gG D)) := by
    refine xfor ?_ ?_
    · refine b_88_16 (by omega) ?_
      repeat' first | (with_reducible intro _) | (with_reducible refine And.intro ?_ ?_)
      all_goals first | omega | assumption | skip
      exact xD_in
    · intro k hk ih 
      have e := pcont_succ (a := (cvw (I 10) (I 11) (I 12) (I 13) (I 14) (I 16) (I 17) (I 18) (I 111))) (n := k) (by omega)
      refine b_88_16 (by omega) ?_
      repeat' first | (with_reducible intro _) | (with_reducible refine And.intro ?_ ?_)
      all_goals first | omega | assumption | skip
      all_goals first | (rw [if_pos (by assumption)] at e; rw [e] at ih; exact ih) | (rw [if_neg (by assumption)] at e; rw [e] at ih; exact ih)
  exact key 0 (Nat.zero_le _)
set_option maxRecDepth 8000 in
theorem sg_89_0_16 {d : Nat} {I : XI} {L : XL} {D : GD} {post : XQ}  {u1 : Int} (h : xR d 89 es_89 3 [xr (some 16), xi u1] [xi u1, xr (some 10)] I L (gG D) 0 0 post) : xR d 89 es_89 0 [xr (some 16), xi u1] [] I L (gG D) 0 0 post := xW_R (fun k => Nat.beq k 3) 3 _ _ _ _ _ _ _ _ _ _ _ _ h
set_option maxRecDepth 8000 in
theorem sg_89_4_16 {d : Nat} {I : XI} {L : XL} {D : GD} {post : XQ}  {u1 : Int} {w0 : Int} (h : ((-2147483648 ≤ w0 ∧ w0 ≤ 2147483647) ∧ ((w0 = 0 → post none I L (gG D)) ∧ (¬ w0 = 0 → ((0 ≤ u1 ∧ u1 < (5 : Int)) ∧ (((-2147483648 ≤ (99 : Int) ∧ (99 : Int) ≤ 2147483647) ∧ (-2147483648 ≤ ((I 18 u1) + (I 10 (2 : Int))) ∧ ((I 18 u1) + (I 10 (2 : Int))) ≤ 2147483647) ∧ 1 ≤ d ∧ 2 ≤ 8) ∧ ((0 ≤ u1 ∧ u1 < (5 : Int)) ∧ post none (xwr I 18 u1 (if ((I 18 u1) + (I 10 (2 : Int))) < (99 : Int) then ((I 18 u1) + (I 10 (2 : Int))) else (99 : Int))) L (gG D)))))))) : xR d 89 es_89 4 [xr (some 16), xi u1] [xi w0] I L (gG D) 0 0 post := xW_R (fun k => Nat.beq k 3) 16 _ _ _ _ _ _ _ _ _ _ _ _ h
set_option maxRecDepth 8000 in
theorem w_89_16 {d : Nat} {I : XI} {L : XL} {D : GD} {post : XQ}   {g : Int} (hd : 1 ≤ d) (h : (((0 ≤ I 10 (4 : Int) ∧ I 10 (4 : Int) ≤ 5) ∧ (-2147483648 ≤ g ∧ g ≤ 2147483647)) ∧ (((¬ (0 ≤ g ∧ g < I 10 (4 : Int)) → post none I L (gG D)) ∧ (0 ≤ g ∧ g < I 10 (4 : Int) → (((0 ≤ g ∧ g < (5 : Int))) ∧ (((-2147483648 ≤ ((I 18 g) + (I 10 (2 : Int))) ∧ ((I 18 g) + (I 10 (2 : Int))) ≤ 2147483647)) ∧ post none (xsc I 18 (xup (I 18) g (if ((I 18 g) + (I 10 (2 : Int))) < (99 : Int) then ((I 18 g) + (I 10 (2 : Int))) else (99 : Int)))) L (gG D)))))))) : xR d 89 es_89 0 [xr (some 16), xi g] [] I L (gG D) 0 0 post := sg_89_0_16  ((xR_cF rfl rfl rfl (c_9 h.1) (by omega) (sg_89_4_16  ⟨(xb_rg _), ⟨fun q680 => (h.2.1 (xb_0 q680)), fun q681 => ⟨(h.2.2 (xb_n0 q681)).1, ⟨⟨(by decide), (h.2.2 (xb_n0 q681)).2.1, (by omega), (by decide)⟩, ⟨(h.2.2 (xb_n0 q681)).1, (h.2.2 (xb_n0 q681)).2.2⟩⟩⟩⟩⟩)))
theorem c_89_16 {I : XI} {L : XL} {D : GD}   {g : Int} (h : (CO (I 10) (I 11) (I 12) (I 13) (I 14) (I 15) (I 16) (I 17) (I 18) (I 111) ∧ (0 ≤ g ∧ g < I 10 (4 : Int)))) : xM 1 89 [xr (some 16), xi g] I L (gG D) (0, 0) (xD none (xsc I 18 (xup (I 18) g (pstir (cvw (I 10) (I 11) (I 12) (I 13) (I 14) (I 16) (I 17) (I 18) (I 111)) g (21 + g)))) L (gG D)) := by
  intro d hd
  obtain ⟨hC, h1⟩ := h
  have hn := hC.n
  have hg := hC.g
  have hu := hC.u h1.1 h1.2
  have hst := hC.st
  have e : pstir (cvw (I 10) (I 11) (I 12) (I 13) (I 14) (I 16) (I 17) (I 18) (I 111)) g (21 + g) = if 99 < I 18 g + I 10 2 then 99 else I 18 g + I 10 2 := by
    unfold pstir
    rw [xup_same, cvw_u h1 (by omega)]
    rfl
  rw [e]
  refine w_89_16 (by omega) ?_
  repeat' first | (with_reducible intro _) | (with_reducible refine And.intro ?_ ?_)
  all_goals first | omega | exact ⟨hg, by omega⟩ | skip
  refine xD_eq rfl ?_ rfl
  congr 2
  split <;> split <;> omega
set_option maxRecDepth 8000 in
theorem sg_90_0_16 {d : Nat} {I : XI} {L : XL} {D : GD} {post : XQ}  {u1 : Int} {u2 : Int} (h : xR d 90 es_90 3 [xr (some 16), xi u1, xi u2, xt 0] [xi u1, xr (some 10)] I L (gG D) 0 0 post) : xR d 90 es_90 0 [xr (some 16), xi u1, xi u2, xt 0] [] I L (gG D) 0 0 post := xW_R (fun k => Nat.beq k 3 || Nat.beq k 8) 3 _ _ _ _ _ _ _ _ _ _ _ _ h
set_option maxRecDepth 8000 in
theorem sg_90_4_16 {d : Nat} {I : XI} {L : XL} {D : GD} {post : XQ}  {u1 : Int} {u2 : Int} {w0 : Int} (h : ((-2147483648 ≤ w0 ∧ w0 ≤ 2147483647) ∧ ((w0 = 0 → post none I L (gG D)) ∧ (¬ w0 = 0 → xR d 90 es_90 8 [xr (some 16), xi u1, xi u2, xt 0] [xi u2, xr (some 10)] I L (gG D) 0 0 post)))) : xR d 90 es_90 4 [xr (some 16), xi u1, xi u2, xt 0] [xi w0] I L (gG D) 0 0 post := xW_R (fun k => Nat.beq k 3 || Nat.beq k 8) 4 _ _ _ _ _ _ _ _ _ _ _ _ h
set_option maxRecDepth 8000 in
theorem sg_90_9_16 {d : Nat} {I : XI} {L : XL} {D : GD} {post : XQ}  {u1 : Int} {u2 : Int} {w0 : Int} (h : ((-2147483648 ≤ w0 ∧ w0 ≤ 2147483647) ∧ ((w0 = 0 → post none I L (gG D)) ∧ (¬ w0 = 0 → ((0 ≤ u1 ∧ u1 < (10 : Int)) ∧ ((0 ≤ u2 ∧ u2 < (10 : Int)) ∧ ((0 ≤ u1 ∧ u1 < (10 : Int)) ∧ ((0 ≤ u2 ∧ u2 < (10 : Int)) ∧ post none (xwr (xwr I 17 u1 (I 17 u2)) 17 u2 (I 17 u1)) L (gG D))))))))) : xR d 90 es_90 9 [xr (some 16), xi u1, xi u2, xt 0] [xi w0] I L (gG D) 0 0 post := xW_R (fun k => Nat.beq k 3 || Nat.beq k 8) 20 _ _ _ _ _ _ _ _ _ _ _ _ h
set_option maxRecDepth 8000 in
theorem w_90_16 {d : Nat} {I : XI} {L : XL} {D : GD} {post : XQ}   {o : Int} {p : Int} (hd : 1 ≤ d) (h : (((0 ≤ I 10 (3 : Int) ∧ I 10 (3 : Int) ≤ 10) ∧ (-2147483648 ≤ o ∧ o ≤ 2147483647)) ∧ (((¬ (0 ≤ o ∧ o < I 10 (3 : Int)) → post none I L (gG D)) ∧ (0 ≤ o ∧ o < I 10 (3 : Int) → (((0 ≤ I 10 (3 : Int) ∧ I 10 (3 : Int) ≤ 10) ∧ (-2147483648 ≤ p ∧ p ≤ 2147483647)) ∧ (((¬ (0 ≤ p ∧ p < I 10 (3 : Int)) → post none I L (gG D)) ∧ (0 ≤ p ∧ p < I 10 (3 : Int) → (((0 ≤ o ∧ o < (10 : Int))) ∧ (((0 ≤ p ∧ p < (10 : Int))) ∧ post none (xsc I 17 (xup (xup (I 17) o (I 17 p)) p (I 17 o))) L (gG D)))))))))))) : xR d 90 es_90 0 [xr (some 16), xi o, xi p, xt 0] [] I L (gG D) 0 0 post := sg_90_0_16  ((xR_cF rfl rfl rfl (c_8 h.1) (by omega) (sg_90_4_16  ⟨(xb_rg _), ⟨fun q684 => (h.2.1 (xb_0 q684)), fun q685 => (xR_cF rfl rfl rfl (c_8 (h.2.2 (xb_n0 q685)).1) (by omega) (sg_90_9_16  ⟨(xb_rg _), ⟨fun q682 => ((h.2.2 (xb_n0 q685)).2.1 (xb_0 q682)), fun q683 => ⟨((h.2.2 (xb_n0 q685)).2.2 (xb_n0 q683)).1, ⟨((h.2.2 (xb_n0 q685)).2.2 (xb_n0 q683)).2.1, ⟨((h.2.2 (xb_n0 q685)).2.2 (xb_n0 q683)).1, ⟨((h.2.2 (xb_n0 q685)).2.2 (xb_n0 q683)).2.1, (xpost ((h.2.2 (xb_n0 q685)).2.2 (xb_n0 q683)).2.2 (funext fun i => (xpt rfl (fun h17_ => (by simp only [xsc_ne _ _ h17_, xwr_ne _ _ _ h17_])))) rfl)⟩⟩⟩⟩⟩⟩))⟩⟩)))
theorem c_90_16 {I : XI} {L : XL} {D : GD}   {o : Int} {p : Int} (h : (CO (I 10) (I 11) (I 12) (I 13) (I 14) (I 15) (I 16) (I 17) (I 18) (I 111) ∧ (0 ≤ o ∧ o < I 10 (3 : Int)) ∧ (0 ≤ p ∧ p < I 10 (3 : Int)))) : xM 1 90 [xr (some 16), xi o, xi p] I L (gG D) (0, 0) (xD none (xsc I 17 (xup (xup (I 17) o (I 17 p)) p (I 17 o))) L (gG D)) := by
  intro d hd
  obtain ⟨hC, h1, h2⟩ := h
  have hn := hC.n
  have hg := hC.g
  refine w_90_16 (by omega) ?_
  repeat' first | (with_reducible intro _) | (with_reducible refine And.intro ?_ ?_)
  all_goals first | omega | exact ⟨hn, by omega⟩ | exact xD_in
set_option maxRecDepth 8000 in
theorem sg_82_0_98 {d : Nat} {I : XI} {L : XL} {D : GD} {post : XQ}   (h : ((-2147483648 ≤ (I 10 (4 : Int)) ∧ (I 10 (4 : Int)) ≤ 2147483647) ∧ (((I 10 (4 : Int)) ≤ 0 → post (some (xi (-1 : Int))) I L (gG D)) ∧ (0 < (I 10 (4 : Int)) → (((-2147483648 ≤ ((I 98 (1 : Int)) + (I 98 (2 : Int))) ∧ ((I 98 (1 : Int)) + (I 98 (2 : Int))) ≤ 2147483647) ∧ (-2147483648 ≤ (I 10 (4 : Int)) ∧ (I 10 (4 : Int)) ≤ 2147483647) ∧ ¬ (I 10 (4 : Int)) = 0) ∧ post (some (xi (Int.tmod ((I 98 (1 : Int)) + (I 98 (2 : Int))) (I 10 (4 : Int))))) I L (gG D)))))) : xR d 82 es_82 0 [xr (some 98)] [] I L (gG D) 0 0 post := xW_R (fun k => false) 15 _ _ _ _ _ _ _ _ _ _ _ _ h
set_option maxRecDepth 8000 in
theorem w_82_98 {d : Nat} {I : XI} {L : XL} {D : GD} {post : XQ}    (hd : 0 ≤ d) (h : (((-2147483648 ≤ (I 10 (4 : Int)) ∧ (I 10 (4 : Int)) ≤ 2147483647)) ∧ (((I 10 (4 : Int)) ≤ 0 → post (some (xi (-1 : Int))) I L (gG D)) ∧ (0 < (I 10 (4 : Int)) → (((-2147483648 ≤ ((I 98 (1 : Int)) + (I 98 (2 : Int))) ∧ ((I 98 (1 : Int)) + (I 98 (2 : Int))) ≤ 2147483647) ∧ ¬ (I 10 (4 : Int)) = 0) ∧ post (some (xi (Int.tmod ((I 98 (1 : Int)) + (I 98 (2 : Int))) (I 10 (4 : Int))))) I L (gG D)))))) : xR d 82 es_82 0 [xr (some 98)] [] I L (gG D) 0 0 post := sg_82_0_98  (⟨h.1, ⟨fun q686 => (h.2.1 q686), fun q687 => ⟨⟨(h.2.2 q687).1.1, h.1, (h.2.2 q687).1.2⟩, (h.2.2 q687).2⟩⟩⟩)
theorem c_82_98 {I : XI} {L : XL} {D : GD}    (h : CO (I 10) (I 11) (I 12) (I 13) (I 14) (I 15) (I 98) (I 99) (I 100) (I 111)) : xM 0 82 [xr (some 98)] I L (gG D) (0, 0) (xD (some (xi (pwhose (cvw (I 10) (I 11) (I 12) (I 13) (I 14) (I 98) (I 99) (I 100) (I 111))))) I L (gG D)) := by
  intro d hd
  have hC := h
  have hn := hC.n
  have hg := hC.g
  have hf := hC.first
  have ht := hC.turn
  refine w_82_98 (by omega) ?_
  repeat' first | (with_reducible intro _) | (with_reducible refine And.intro ?_ ?_)
  all_goals first | omega | skip
  all_goals (refine xD_eq ?_ rfl rfl; rw [show pwhose (cvw (I 10) (I 11) (I 12) (I 13) (I 14) (I 98) (I 99) (I 100) (I 111)) = if I 10 4 = 0 then -1 else Int.tmod (I 98 1 + I 98 2) (I 10 4) from rfl]; first | (rw [if_pos (show I 10 4 = 0 by omega)]; done) | (rw [if_neg (show ¬ I 10 4 = 0 by omega)]; done))
set_option maxRecDepth 8000 in
theorem sg_83_0_98 {d : Nat} {I : XI} {L : XL} {D : GD} {post : XQ}  {u1 : Int} (h : xR d 83 es_83 3 [xr (some 98), xi u1] [xi u1, xr (some 10)] I L (gG D) 0 0 post) : xR d 83 es_83 0 [xr (some 98), xi u1] [] I L (gG D) 0 0 post := xW_R (fun k => Nat.beq k 3) 3 _ _ _ _ _ _ _ _ _ _ _ _ h
set_option maxRecDepth 8000 in
theorem sg_83_4_98 {d : Nat} {I : XI} {L : XL} {D : GD} {post : XQ}  {u1 : Int} {w0 : Int} (h : ((-2147483648 ≤ w0 ∧ w0 ≤ 2147483647) ∧ ((w0 = 0 → (((0 : Int) = 0 ∨ (0 : Int) = 1) ∧ post (some (xi (0 : Int))) I L (gG D))) ∧ (¬ w0 = 0 → ((0 ≤ u1 ∧ u1 < (10 : Int)) ∧ (((-2147483648 ≤ (I 99 u1) ∧ (I 99 u1) ≤ 2147483647) ∧ (-2147483648 ≤ (-1 : Int) ∧ (-1 : Int) ≤ 2147483647)) ∧ ((¬ (I 99 u1) = (-1 : Int) → (((0 : Int) = 0 ∨ (0 : Int) = 1) ∧ post (some (xi (0 : Int))) I L (gG D))) ∧ ((I 99 u1) = (-1 : Int) → (((1 : Int) = 0 ∨ (1 : Int) = 1) ∧ post (some (xi (1 : Int))) I L (gG D)))))))))) : xR d 83 es_83 4 [xr (some 98), xi u1] [xi w0] I L (gG D) 0 0 post := xW_R (fun k => Nat.beq k 3) 10 _ _ _ _ _ _ _ _ _ _ _ _ h
set_option maxRecDepth 8000 in
theorem w_83_98 {d : Nat} {I : XI} {L : XL} {D : GD} {post : XQ}   {s : Int} (hd : 1 ≤ d) (h : (((0 ≤ I 10 (3 : Int) ∧ I 10 (3 : Int) ≤ 10) ∧ (-2147483648 ≤ s ∧ s ≤ 2147483647)) ∧ (((¬ (0 ≤ s ∧ s < I 10 (3 : Int)) → post (some (xi (0 : Int))) I L (gG D)) ∧ (0 ≤ s ∧ s < I 10 (3 : Int) → (((0 ≤ s ∧ s < (10 : Int))) ∧ (((-2147483648 ≤ (I 99 s) ∧ (I 99 s) ≤ 2147483647)) ∧ ((¬ (I 99 s) = (-1 : Int) → post (some (xi (0 : Int))) I L (gG D)) ∧ ((I 99 s) = (-1 : Int) → post (some (xi (1 : Int))) I L (gG D)))))))))) : xR d 83 es_83 0 [xr (some 98), xi s] [] I L (gG D) 0 0 post := sg_83_0_98  ((xR_cF rfl rfl rfl (c_8 h.1) (by omega) (sg_83_4_98  ⟨(xb_rg _), ⟨fun q690 => ⟨(by decide), (h.2.1 (xb_0 q690))⟩, fun q691 => ⟨(h.2.2 (xb_n0 q691)).1, ⟨⟨(h.2.2 (xb_n0 q691)).2.1, (by decide)⟩, ⟨fun q688 => ⟨(by decide), ((h.2.2 (xb_n0 q691)).2.2.1 q688)⟩, fun q689 => ⟨(by decide), ((h.2.2 (xb_n0 q691)).2.2.2 q689)⟩⟩⟩⟩⟩⟩)))
theorem c_83_98 {I : XI} {L : XL} {D : GD}   {s : Int} (h : (CO (I 10) (I 11) (I 12) (I 13) (I 14) (I 15) (I 98) (I 99) (I 100) (I 111) ∧ (-2147483648 ≤ s ∧ s ≤ 2147483647))) : xM 1 83 [xr (some 98), xi s] I L (gG D) (0, 0) (xD (some (xi (xb ((0 ≤ s ∧ s < I 10 (3 : Int)) ∧ I 99 s = -1)))) I L (gG D)) := by
  intro d hd
  obtain ⟨hC, h1⟩ := h
  have hn := hC.n
  have hg := hC.g
  have ho := fun h0 h1 => hC.o (s := s) h0 h1
  refine w_83_98 (by omega) ?_
  repeat' first | (with_reducible intro _) | (with_reducible refine And.intro ?_ ?_)
  all_goals first | omega | exact ⟨hn, h1⟩ | (have := ho (by omega) (by omega); omega) | (refine xD_eq ?_ rfl rfl; first | rfl | rw [xb_t (by omega)] | rw [xb_f (by omega)] | (rw [xb_t (by assumption)]) | (rw [xb_f (by assumption)]) | (rw [xb_t (by simp_all; done)]) | (rw [xb_f (by simp_all; done)]))
set_option maxRecDepth 8000 in
theorem sg_84_0_98 {d : Nat} {I : XI} {L : XL} {D : GD} {post : XQ}  {u1 : Int} (h : xR d 84 es_84 3 [xr (some 98), xi u1] [xi u1, xr (some 10)] I L (gG D) 0 0 post) : xR d 84 es_84 0 [xr (some 98), xi u1] [] I L (gG D) 0 0 post := xW_R (fun k => Nat.beq k 3) 3 _ _ _ _ _ _ _ _ _ _ _ _ h
set_option maxRecDepth 8000 in
theorem sg_84_4_98 {d : Nat} {I : XI} {L : XL} {D : GD} {post : XQ}  {u1 : Int} {w0 : Int} (h : ((-2147483648 ≤ w0 ∧ w0 ≤ 2147483647) ∧ ((w0 = 0 → post (some (xi (-1 : Int))) I L (gG D)) ∧ (¬ w0 = 0 → ((0 ≤ u1 ∧ u1 < (10 : Int)) ∧ post (some (xi (I 99 u1))) I L (gG D)))))) : xR d 84 es_84 4 [xr (some 98), xi u1] [xi w0] I L (gG D) 0 0 post := xW_R (fun k => Nat.beq k 3) 7 _ _ _ _ _ _ _ _ _ _ _ _ h
set_option maxRecDepth 8000 in
theorem w_84_98 {d : Nat} {I : XI} {L : XL} {D : GD} {post : XQ}   {s : Int} (hd : 1 ≤ d) (h : (((0 ≤ I 10 (3 : Int) ∧ I 10 (3 : Int) ≤ 10) ∧ (-2147483648 ≤ s ∧ s ≤ 2147483647)) ∧ (((¬ (0 ≤ s ∧ s < I 10 (3 : Int)) → post (some (xi (-1 : Int))) I L (gG D)) ∧ (0 ≤ s ∧ s < I 10 (3 : Int) → (((0 ≤ s ∧ s < (10 : Int))) ∧ post (some (xi (I 99 s))) I L (gG D))))))) : xR d 84 es_84 0 [xr (some 98), xi s] [] I L (gG D) 0 0 post := sg_84_0_98  ((xR_cF rfl rfl rfl (c_8 h.1) (by omega) (sg_84_4_98  ⟨(xb_rg _), ⟨fun q692 => (h.2.1 (xb_0 q692)), fun q693 => ⟨(h.2.2 (xb_n0 q693)).1, (h.2.2 (xb_n0 q693)).2⟩⟩⟩)))
theorem c_84_98 {I : XI} {L : XL} {D : GD}   {s : Int} (h : (CO (I 10) (I 11) (I 12) (I 13) (I 14) (I 15) (I 98) (I 99) (I 100) (I 111) ∧ (-2147483648 ≤ s ∧ s ≤ 2147483647))) : xM 1 84 [xr (some 98), xi s] I L (gG D) (0, 0) (xD (some (xi (if (0 ≤ s ∧ s < I 10 (3 : Int)) then I 99 s else -1))) I L (gG D)) := by
  intro d hd
  obtain ⟨hC, h1⟩ := h
  have hn := hC.n
  have hg := hC.g
  refine w_84_98 (by omega) ?_
  repeat' first | (with_reducible intro _) | (with_reducible refine And.intro ?_ ?_)
  all_goals first | omega | exact ⟨hn, h1⟩ | (rw [if_pos (by assumption)]; exact xD_in) | (rw [if_neg (by assumption)]; exact xD_in)
set_option maxRecDepth 8000 in
theorem sg_85_0_98 {d : Nat} {I : XI} {L : XL} {D : GD} {post : XQ}  {u1 : Int} (h : xR d 85 es_85 4 [xr (some 98), xi u1, xi (0 : Int), xi (0 : Int)] [] I L (gG D) 0 0 post) : xR d 85 es_85 0 [xr (some 98), xi u1, xt 0, xt 0] [] I L (gG D) 0 0 post := xW_R (fun k => Nat.beq k 4) 4 _ _ _ _ _ _ _ _ _ _ _ _ h
set_option maxRecDepth 8000 in
theorem w_85_98 {d : Nat} {I : XI} {L : XL} {D : GD} {post : XQ}   {g : Int} (hd : 0 ≤ d) (h : xR d 85 es_85 4 [xr (some 98), xi g, xi (0 : Int), xi (0 : Int)] [] I L (gG D) 0 0 post) : xR d 85 es_85 0 [xr (some 98), xi g, xt 0, xt 0] [] I L (gG D) 0 0 post := sg_85_0_98  (h)
set_option maxRecDepth 8000 in
theorem sg_85_4_98 {d : Nat} {I : XI} {L : XL} {D : GD} {post : XQ}  {u1 : Int} {u2 : Int} {u3 : Int} (h : (((-2147483648 ≤ u3 ∧ u3 ≤ 2147483647) ∧ (-2147483648 ≤ (I 10 (3 : Int)) ∧ (I 10 (3 : Int)) ≤ 2147483647)) ∧ (((I 10 (3 : Int)) ≤ u3 → post (some (xi u2)) I L (gG D)) ∧ (u3 < (I 10 (3 : Int)) → ((0 ≤ u3 ∧ u3 < (10 : Int)) ∧ (((-2147483648 ≤ (I 99 u3) ∧ (I 99 u3) ≤ 2147483647) ∧ (-2147483648 ≤ u1 ∧ u1 ≤ 2147483647)) ∧ ((¬ (I 99 u3) = u1 → xR d 85 es_85 4 [xr (some 98), xi u1, xi u2, xi (u3 + (1 : Int))] [] I L (gG D) 0 0 post) ∧ ((I 99 u3) = u1 → xR d 85 es_85 4 [xr (some 98), xi u1, xi (xior u2 (xshl (1 : Int) u3)), xi (u3 + (1 : Int))] [] I L (gG D) 0 0 post)))))))) : xR d 85 es_85 4 [xr (some 98), xi u1, xi u2, xi u3] [] I L (gG D) 0 0 post := xW_R (fun k => Nat.beq k 4) 19 _ _ _ _ _ _ _ _ _ _ _ _ h
set_option maxRecDepth 8000 in
theorem b_85_98 {d : Nat} {I : XI} {L : XL} {D : GD} {post : XQ}   {g : Int} {u : Int} {v : Int} (hd : 0 ≤ d) (h : (((-2147483648 ≤ v ∧ v ≤ 2147483647) ∧ (-2147483648 ≤ (I 10 (3 : Int)) ∧ (I 10 (3 : Int)) ≤ 2147483647)) ∧ (((I 10 (3 : Int)) ≤ v → post (some (xi u)) I L (gG D)) ∧ (v < (I 10 (3 : Int)) → (((0 ≤ v ∧ v < (10 : Int))) ∧ (((-2147483648 ≤ (I 99 v) ∧ (I 99 v) ≤ 2147483647) ∧ (-2147483648 ≤ g ∧ g ≤ 2147483647)) ∧ ((¬ (I 99 v) = g → xR d 85 es_85 4 [xr (some 98), xi g, xi u, xi (v + (1 : Int))] [] I L (gG D) 0 0 post) ∧ ((I 99 v) = g → xR d 85 es_85 4 [xr (some 98), xi g, xi (xior u (xshl (1 : Int) v)), xi (v + (1 : Int))] [] I L (gG D) 0 0 post)))))))) : xR d 85 es_85 4 [xr (some 98), xi g, xi u, xi v] [] I L (gG D) 0 0 post := sg_85_4_98  (⟨⟨h.1.1, h.1.2⟩, ⟨fun q696 => (h.2.1 q696), fun q697 => ⟨(h.2.2 q697).1, ⟨⟨(h.2.2 q697).2.1.1, (h.2.2 q697).2.1.2⟩, ⟨fun q694 => ((h.2.2 q697).2.2.1 q694), fun q695 => ((h.2.2 q697).2.2.2 q695)⟩⟩⟩⟩⟩)
theorem c_85_98 {I : XI} {L : XL} {D : GD}   {g : Int} (h : (CO (I 10) (I 11) (I 12) (I 13) (I 14) (I 15) (I 98) (I 99) (I 100) (I 111) ∧ (-2147483648 ≤ g ∧ g ≤ 2147483647))) : xM 0 85 [xr (some 98), xi g] I L (gG D) (0, 0) (xD (some (xi (pslices (cvw (I 10) (I 11) (I 12) (I 13) (I 14) (I 98) (I 99) (I 100) (I 111)) g))) I L (gG D)) := by
  intro d hd
  obtain ⟨hC, h1⟩ := h
  have hn := hC.n
  have hg := hC.g
  refine w_85_98 (by omega) ?_
  have key : ∀ k : Nat, k ≤ (I 10 3).toNat → xR d 85 es_85 4 [xr (some 98), xi g, xi (psl (cvw (I 10) (I 11) (I 12) (I 13) (I 14) (I 98) (I 99) (I 100) (I 111)) g k), xi (k : Int)] [] I L (gG D) 0 0 (xD (some (xi (pslices (cvw (I 10) (I 11) (I 12) (I 13) (I 14) (I 98) (I 99) (I 100) (I 111)) g))) I L (gG D)) := by
    refine xfor ?_ ?_
    · refine b_85_98 (by omega) ?_
      repeat' first | (with_reducible intro _) | (with_reducible refine And.intro ?_ ?_)
      all_goals first | omega | assumption | skip
      exact xD_in
    · intro k hk ih 
      have ho := hC.o (s := (k : Int)) (by omega) (by omega)
      have e := psl_succ (a := (cvw (I 10) (I 11) (I 12) (I 13) (I 14) (I 98) (I 99) (I 100) (I 111))) (g := g) (n := k) (by omega)
      rw [cvw_o (by omega)] at e
      refine b_85_98 (by omega) ?_
      repeat' first | (with_reducible intro _) | (with_reducible refine And.intro ?_ ?_)
      all_goals first | omega | assumption | skip
      all_goals first | (rw [if_pos (by assumption)] at e; rw [e] at ih; exact ih) | (rw [if_neg (by assumption)] at e; rw [e] at ih; exact ih)
  exact key 0 (Nat.zero_le _)
set_option maxRecDepth 8000 in
theorem sg_86_0_98 {d : Nat} {I : XI} {L : XL} {D : GD} {post : XQ}  {u1 : Int} (h : xR d 86 es_86 4 [xr (some 98), xi u1, xi (0 : Int), xi (0 : Int)] [] I L (gG D) 0 0 post) : xR d 86 es_86 0 [xr (some 98), xi u1, xt 0, xt 0] [] I L (gG D) 0 0 post := xW_R (fun k => Nat.beq k 4 || Nat.beq k 20) 4 _ _ _ _ _ _ _ _ _ _ _ _ h
set_option maxRecDepth 8000 in
theorem w_86_98 {d : Nat} {I : XI} {L : XL} {D : GD} {post : XQ}   {g : Int} (hd : 0 ≤ d) (h : xR d 86 es_86 4 [xr (some 98), xi g, xi (0 : Int), xi (0 : Int)] [] I L (gG D) 0 0 post) : xR d 86 es_86 0 [xr (some 98), xi g, xt 0, xt 0] [] I L (gG D) 0 0 post := sg_86_0_98  (h)
set_option maxRecDepth 8000 in
theorem sg_86_4_98 {d : Nat} {I : XI} {L : XL} {D : GD} {post : XQ}  {u1 : Int} {u2 : Int} {u3 : Int} (h : (((-2147483648 ≤ u3 ∧ u3 ≤ 2147483647) ∧ (-2147483648 ≤ (I 10 (3 : Int)) ∧ (I 10 (3 : Int)) ≤ 2147483647)) ∧ (((I 10 (3 : Int)) ≤ u3 → post (some (xi u2)) I L (gG D)) ∧ (u3 < (I 10 (3 : Int)) → ((0 ≤ u3 ∧ u3 < (10 : Int)) ∧ (((-2147483648 ≤ (I 99 u3) ∧ (I 99 u3) ≤ 2147483647) ∧ (-2147483648 ≤ u1 ∧ u1 ≤ 2147483647)) ∧ ((¬ (I 99 u3) = u1 → xR d 86 es_86 4 [xr (some 98), xi u1, xi u2, xi (u3 + (1 : Int))] [] I L (gG D) 0 0 post) ∧ ((I 99 u3) = u1 → xR d 86 es_86 20 [xr (some 98), xi u1, xi u2, xi u3] [xi u1, xi u3, xr (some 10), xi u2] I L (gG D) 0 0 post)))))))) : xR d 86 es_86 4 [xr (some 98), xi u1, xi u2, xi u3] [] I L (gG D) 0 0 post := xW_R (fun k => Nat.beq k 4 || Nat.beq k 20) 16 _ _ _ _ _ _ _ _ _ _ _ _ h
set_option maxRecDepth 8000 in
theorem sg_86_21_98 {d : Nat} {I : XI} {L : XL} {D : GD} {post : XQ}  {u1 : Int} {u2 : Int} {u3 : Int} {w0 : Int} {w1 : Int} (h : xR d 86 es_86 4 [xr (some 98), xi u1, xi (w0 + w1), xi (u3 + (1 : Int))] [] I L (gG D) 0 0 post) : xR d 86 es_86 21 [xr (some 98), xi u1, xi u2, xi u3] [xi w1, xi w0] I L (gG D) 0 0 post := xW_R (fun k => Nat.beq k 4 || Nat.beq k 20) 4 _ _ _ _ _ _ _ _ _ _ _ _ h
set_option maxRecDepth 8000 in
theorem b_86_98 {d : Nat} {I : XI} {L : XL} {D : GD} {post : XQ}   {g : Int} {u : Int} {v : Int} (hd : 1 ≤ d) (h : (((-2147483648 ≤ v ∧ v ≤ 2147483647) ∧ (-2147483648 ≤ (I 10 (3 : Int)) ∧ (I 10 (3 : Int)) ≤ 2147483647)) ∧ (((I 10 (3 : Int)) ≤ v → post (some (xi u)) I L (gG D)) ∧ (v < (I 10 (3 : Int)) → (((0 ≤ v ∧ v < (10 : Int))) ∧ (((-2147483648 ≤ (I 99 v) ∧ (I 99 v) ≤ 2147483647) ∧ (-2147483648 ≤ g ∧ g ≤ 2147483647)) ∧ ((¬ (I 99 v) = g → xR d 86 es_86 4 [xr (some 98), xi g, xi u, xi (v + (1 : Int))] [] I L (gG D) 0 0 post) ∧ ((I 99 v) = g → (((0 ≤ I 10 (3 : Int) ∧ I 10 (3 : Int) ≤ 10) ∧ (0 ≤ I 10 (4 : Int) ∧ I 10 (4 : Int) ≤ 5) ∧ (0 ≤ v ∧ v < I 10 (3 : Int)) ∧ (0 ≤ g ∧ g < I 10 (4 : Int))) ∧ xR d 86 es_86 4 [xr (some 98), xi g, xi (u + (I 15 (g * 10 + v))), xi (v + (1 : Int))] [] I L (gG D) 0 0 post))))))))) : xR d 86 es_86 4 [xr (some 98), xi g, xi u, xi v] [] I L (gG D) 0 0 post := sg_86_4_98  (⟨⟨h.1.1, h.1.2⟩, ⟨fun q700 => (h.2.1 q700), fun q701 => ⟨(h.2.2 q701).1, ⟨⟨(h.2.2 q701).2.1.1, (h.2.2 q701).2.1.2⟩, ⟨fun q698 => ((h.2.2 q701).2.2.1 q698), fun q699 => (xR_cF rfl rfl rfl (c_11 ((h.2.2 q701).2.2.2 q699).1) (by omega) (sg_86_21_98  ((h.2.2 q701).2.2.2 q699).2))⟩⟩⟩⟩⟩)
theorem c_86_98 {I : XI} {L : XL} {D : GD}   {g : Int} (h : (CO (I 10) (I 11) (I 12) (I 13) (I 14) (I 15) (I 98) (I 99) (I 100) (I 111) ∧ (0 ≤ g ∧ g < I 10 (4 : Int)))) : xM 1 86 [xr (some 98), xi g] I L (gG D) (0, 0) (xD (some (xi (phas (cvw (I 10) (I 11) (I 12) (I 13) (I 14) (I 98) (I 99) (I 100) (I 111)) g))) I L (gG D)) := by
  intro d hd
  obtain ⟨hC, h1⟩ := h
  have hn := hC.n
  have hg := hC.g
  refine w_86_98 (by omega) ?_
  have key : ∀ k : Nat, k ≤ (I 10 3).toNat → xR d 86 es_86 4 [xr (some 98), xi g, xi (phs (cvw (I 10) (I 11) (I 12) (I 13) (I 14) (I 98) (I 99) (I 100) (I 111)) g k), xi (k : Int)] [] I L (gG D) 0 0 (xD (some (xi (phas (cvw (I 10) (I 11) (I 12) (I 13) (I 14) (I 98) (I 99) (I 100) (I 111)) g))) I L (gG D)) := by
    refine xfor ?_ ?_
    · refine b_86_98 (by omega) ?_
      repeat' first | (with_reducible intro _) | (with_reducible refine And.intro ?_ ?_)
      all_goals first | omega | assumption | skip
      rw [phas_eq hC.1]
      exact xD_in
    · intro k hk ih 
      have ho := hC.o (s := (k : Int)) (by omega) (by omega)
      have hw := hC.w2 (g := g) (s := (k : Int)) (by omega) (by omega) (by omega) (by omega)
      have e : phs (cvw (I 10) (I 11) (I 12) (I 13) (I 14) (I 98) (I 99) (I 100) (I 111)) g (k + 1) = phs (cvw (I 10) (I 11) (I 12) (I 13) (I 14) (I 98) (I 99) (I 100) (I 111)) g k + (if (cvw (I 10) (I 11) (I 12) (I 13) (I 14) (I 98) (I 99) (I 100) (I 111)) (11 + (k : Int)) = g then pw (cvw (I 10) (I 11) (I 12) (I 13) (I 14) (I 98) (I 99) (I 100) (I 111)) g (k : Int) else 0) := rfl
      rw [cvw_o (by omega)] at e
      have hG : (0 ≤ I 10 3 ∧ I 10 3 ≤ 10) ∧ (0 ≤ I 10 4 ∧ I 10 4 ≤ 5) ∧ (0 ≤ (k : Int) ∧ (k : Int) < I 10 3) ∧ (0 ≤ g ∧ g < I 10 4) := ⟨hn, hg, by omega, h1⟩
      refine b_86_98 (by omega) ?_
      repeat' first | (with_reducible intro _) | (with_reducible refine And.intro ?_ ?_)
      all_goals first | omega | assumption | skip
      all_goals first | (rw [if_pos (by assumption)] at e; rw [e, ← hw] at ih; exact ih) | (rw [if_neg (by assumption), Int.add_zero] at e; rw [e] at ih; exact ih)
  exact key 0 (Nat.zero_le _)
set_option maxRecDepth 8000 in
theorem sg_87_0_98 {d : Nat} {I : XI} {L : XL} {D : GD} {post : XQ}  {u1 : Int} (h : xR d 87 es_87 3 [xr (some 98), xi u1] [xi u1, xr (some 10)] I L (gG D) 0 0 post) : xR d 87 es_87 0 [xr (some 98), xi u1] [] I L (gG D) 0 0 post := xW_R (fun k => Nat.beq k 3 || Nat.beq k 7) 3 _ _ _ _ _ _ _ _ _ _ _ _ h
set_option maxRecDepth 8000 in
theorem sg_87_4_98 {d : Nat} {I : XI} {L : XL} {D : GD} {post : XQ}  {u1 : Int} {w0 : Int} (h : ((-2147483648 ≤ w0 ∧ w0 ≤ 2147483647) ∧ ((w0 = 0 → (((0 : Int) = 0 ∨ (0 : Int) = 1) ∧ post (some (xi (0 : Int))) I L (gG D))) ∧ (¬ w0 = 0 → xR d 87 es_87 7 [xr (some 98), xi u1] [xi u1, xr (some 98)] I L (gG D) 0 0 post)))) : xR d 87 es_87 4 [xr (some 98), xi u1] [xi w0] I L (gG D) 0 0 post := xW_R (fun k => Nat.beq k 3 || Nat.beq k 7) 3 _ _ _ _ _ _ _ _ _ _ _ _ h
set_option maxRecDepth 8000 in
theorem sg_87_8_98 {d : Nat} {I : XI} {L : XL} {D : GD} {post : XQ}  {u1 : Int} {w0 : Int} (h : ((0 ≤ u1 ∧ u1 < (5 : Int)) ∧ (((-2147483648 ≤ w0 ∧ w0 ≤ 2147483647) ∧ (-2147483648 ≤ (I 100 u1) ∧ (I 100 u1) ≤ 2147483647)) ∧ ((w0 < (I 100 u1) → (((0 : Int) = 0 ∨ (0 : Int) = 1) ∧ post (some (xi (0 : Int))) I L (gG D))) ∧ ((I 100 u1) ≤ w0 → (((1 : Int) = 0 ∨ (1 : Int) = 1) ∧ post (some (xi (1 : Int))) I L (gG D))))))) : xR d 87 es_87 8 [xr (some 98), xi u1] [xi w0] I L (gG D) 0 0 post := xW_R (fun k => Nat.beq k 3 || Nat.beq k 7) 8 _ _ _ _ _ _ _ _ _ _ _ _ h
set_option maxRecDepth 8000 in
theorem w_87_98 {d : Nat} {I : XI} {L : XL} {D : GD} {post : XQ}   {g : Int} (hd : 2 ≤ d) (h : (((0 ≤ I 10 (4 : Int) ∧ I 10 (4 : Int) ≤ 5) ∧ (-2147483648 ≤ g ∧ g ≤ 2147483647)) ∧ (((¬ (0 ≤ g ∧ g < I 10 (4 : Int)) → post (some (xi (0 : Int))) I L (gG D)) ∧ (0 ≤ g ∧ g < I 10 (4 : Int) → ((CO (I 10) (I 11) (I 12) (I 13) (I 14) (I 15) (I 98) (I 99) (I 100) (I 111) ∧ (0 ≤ g ∧ g < I 10 (4 : Int))) ∧ (((0 ≤ g ∧ g < (5 : Int))) ∧ (((-2147483648 ≤ (phas (cvw (I 10) (I 11) (I 12) (I 13) (I 14) (I 98) (I 99) (I 100) (I 111)) g) ∧ (phas (cvw (I 10) (I 11) (I 12) (I 13) (I 14) (I 98) (I 99) (I 100) (I 111)) g) ≤ 2147483647) ∧ (-2147483648 ≤ (I 100 g) ∧ (I 100 g) ≤ 2147483647)) ∧ (((phas (cvw (I 10) (I 11) (I 12) (I 13) (I 14) (I 98) (I 99) (I 100) (I 111)) g) < (I 100 g) → post (some (xi (0 : Int))) I L (gG D)) ∧ ((I 100 g) ≤ (phas (cvw (I 10) (I 11) (I 12) (I 13) (I 14) (I 98) (I 99) (I 100) (I 111)) g) → post (some (xi (1 : Int))) I L (gG D))))))))))) : xR d 87 es_87 0 [xr (some 98), xi g] [] I L (gG D) 0 0 post := sg_87_0_98  ((xR_cF rfl rfl rfl (c_9 h.1) (by omega) (sg_87_4_98  ⟨(xb_rg _), ⟨fun q704 => ⟨(by decide), (h.2.1 (xb_0 q704))⟩, fun q705 => (xR_cF rfl rfl rfl (c_86_98 (h.2.2 (xb_n0 q705)).1) (by omega) (sg_87_8_98  ⟨(h.2.2 (xb_n0 q705)).2.1, ⟨⟨(h.2.2 (xb_n0 q705)).2.2.1.1, (h.2.2 (xb_n0 q705)).2.2.1.2⟩, ⟨fun q702 => ⟨(by decide), ((h.2.2 (xb_n0 q705)).2.2.2.1 q702)⟩, fun q703 => ⟨(by decide), ((h.2.2 (xb_n0 q705)).2.2.2.2 q703)⟩⟩⟩⟩))⟩⟩)))
theorem c_87_98 {I : XI} {L : XL} {D : GD}   {g : Int} (h : (CO (I 10) (I 11) (I 12) (I 13) (I 14) (I 15) (I 98) (I 99) (I 100) (I 111) ∧ (0 ≤ g ∧ g < I 10 (4 : Int)))) : xM 2 87 [xr (some 98), xi g] I L (gG D) (0, 0) (xD (some (xi (xb ((cvw (I 10) (I 11) (I 12) (I 13) (I 14) (I 98) (I 99) (I 100) (I 111)) (21 + g) ≤ phas (cvw (I 10) (I 11) (I 12) (I 13) (I 14) (I 98) (I 99) (I 100) (I 111)) g)))) I L (gG D)) := by
  intro d hd
  obtain ⟨hC, h1⟩ := h
  have hn := hC.n
  have hg := hC.g
  have hu := hC.u h1.1 h1.2
  have hh := phas_rg hC.1 h1.1 (by omega)
  rw [show (cvw (I 10) (I 11) (I 12) (I 13) (I 14) (I 98) (I 99) (I 100) (I 111)) (21 + g) = I 100 g from cvw_u h1 (by omega)]
  refine w_87_98 (by omega) ?_
  repeat' first | (with_reducible intro _) | (with_reducible refine And.intro ?_ ?_)
  all_goals first | omega | exact ⟨hg, by omega⟩ | exact ⟨hC, h1⟩ | assumption | (refine xD_eq ?_ rfl rfl; first | rfl | rw [xb_t (by omega)] | rw [xb_f (by omega)] | (rw [xb_t (by assumption)]) | (rw [xb_f (by assumption)]) | (rw [xb_t (by simp_all; done)]) | (rw [xb_f (by simp_all; done)]))
set_option maxRecDepth 8000 in
theorem sg_88_0_98 {d : Nat} {I : XI} {L : XL} {D : GD} {post : XQ}   (h : xR d 88 es_88 4 [xr (some 98), xi (0 : Int), xi (0 : Int)] [] I L (gG D) 0 0 post) : xR d 88 es_88 0 [xr (some 98), xt 0, xt 0] [] I L (gG D) 0 0 post := xW_R (fun k => Nat.beq k 4 || Nat.beq k 11) 4 _ _ _ _ _ _ _ _ _ _ _ _ h
set_option maxRecDepth 8000 in
theorem w_88_98 {d : Nat} {I : XI} {L : XL} {D : GD} {post : XQ}    (hd : 0 ≤ d) (h : xR d 88 es_88 4 [xr (some 98), xi (0 : Int), xi (0 : Int)] [] I L (gG D) 0 0 post) : xR d 88 es_88 0 [xr (some 98), xt 0, xt 0] [] I L (gG D) 0 0 post := sg_88_0_98  (h)
set_option maxRecDepth 8000 in
theorem sg_88_4_98 {d : Nat} {I : XI} {L : XL} {D : GD} {post : XQ}  {u1 : Int} {u2 : Int} (h : (((-2147483648 ≤ u2 ∧ u2 ≤ 2147483647) ∧ (-2147483648 ≤ (I 10 (4 : Int)) ∧ (I 10 (4 : Int)) ≤ 2147483647)) ∧ (((I 10 (4 : Int)) ≤ u2 → post (some (xi u1)) I L (gG D)) ∧ (u2 < (I 10 (4 : Int)) → xR d 88 es_88 11 [xr (some 98), xi u1, xi u2] [xi u2, xr (some 98)] I L (gG D) 0 0 post)))) : xR d 88 es_88 4 [xr (some 98), xi u1, xi u2] [] I L (gG D) 0 0 post := xW_R (fun k => Nat.beq k 4 || Nat.beq k 11) 7 _ _ _ _ _ _ _ _ _ _ _ _ h
set_option maxRecDepth 8000 in
theorem sg_88_12_98 {d : Nat} {I : XI} {L : XL} {D : GD} {post : XQ}  {u1 : Int} {u2 : Int} {w0 : Int} (h : ((-2147483648 ≤ w0 ∧ w0 ≤ 2147483647) ∧ ((w0 = 0 → xR d 88 es_88 4 [xr (some 98), xi u1, xi (u2 + (1 : Int))] [] I L (gG D) 0 0 post) ∧ (¬ w0 = 0 → xR d 88 es_88 4 [xr (some 98), xi (xior u1 (xshl (1 : Int) u2)), xi (u2 + (1 : Int))] [] I L (gG D) 0 0 post)))) : xR d 88 es_88 12 [xr (some 98), xi u1, xi u2] [xi w0] I L (gG D) 0 0 post := xW_R (fun k => Nat.beq k 4 || Nat.beq k 11) 9 _ _ _ _ _ _ _ _ _ _ _ _ h
set_option maxRecDepth 8000 in
theorem b_88_98 {d : Nat} {I : XI} {L : XL} {D : GD} {post : XQ}   {u : Int} {v : Int} (hd : 3 ≤ d) (h : (((-2147483648 ≤ v ∧ v ≤ 2147483647) ∧ (-2147483648 ≤ (I 10 (4 : Int)) ∧ (I 10 (4 : Int)) ≤ 2147483647)) ∧ (((I 10 (4 : Int)) ≤ v → post (some (xi u)) I L (gG D)) ∧ (v < (I 10 (4 : Int)) → ((CO (I 10) (I 11) (I 12) (I 13) (I 14) (I 15) (I 98) (I 99) (I 100) (I 111) ∧ (0 ≤ v ∧ v < I 10 (4 : Int))) ∧ (((¬ ((cvw (I 10) (I 11) (I 12) (I 13) (I 14) (I 98) (I 99) (I 100) (I 111)) (21 + v) ≤ phas (cvw (I 10) (I 11) (I 12) (I 13) (I 14) (I 98) (I 99) (I 100) (I 111)) v) → xR d 88 es_88 4 [xr (some 98), xi u, xi (v + (1 : Int))] [] I L (gG D) 0 0 post) ∧ ((cvw (I 10) (I 11) (I 12) (I 13) (I 14) (I 98) (I 99) (I 100) (I 111)) (21 + v) ≤ phas (cvw (I 10) (I 11) (I 12) (I 13) (I 14) (I 98) (I 99) (I 100) (I 111)) v → xR d 88 es_88 4 [xr (some 98), xi (xior u (xshl (1 : Int) v)), xi (v + (1 : Int))] [] I L (gG D) 0 0 post)))))))) : xR d 88 es_88 4 [xr (some 98), xi u, xi v] [] I L (gG D) 0 0 post := sg_88_4_98  (⟨⟨h.1.1, h.1.2⟩, ⟨fun q708 => (h.2.1 q708), fun q709 => (xR_cF rfl rfl rfl (c_87_98 (h.2.2 q709).1) (by omega) (sg_88_12_98  ⟨(xb_rg _), ⟨fun q706 => ((h.2.2 q709).2.1 (xb_0 q706)), fun q707 => ((h.2.2 q709).2.2 (xb_n0 q707))⟩⟩))⟩⟩)
theorem c_88_98 {I : XI} {L : XL} {D : GD}    (h : CO (I 10) (I 11) (I 12) (I 13) (I 14) (I 15) (I 98) (I 99) (I 100) (I 111)) : xM 3 88 [xr (some 98)] I L (gG D) (0, 0) (xD (some (xi (pcontent (cvw (I 10) (I 11) (I 12) (I 13) (I 14) (I 98) (I 99) (I 100) (I 111))))) I L (gG D)) := by
  intro d hd
  have hC := h
  have hn := hC.n
  have hg := hC.g
  refine w_88_98 (by omega) ?_
  have key : ∀ k : Nat, k ≤ (I 10 4).toNat → xR d 88 es_88 4 [xr (some 98), xi (pcont (cvw (I 10) (I 11) (I 12) (I 13) (I 14) (I 98) (I 99) (I 100) (I 111)) k), xi (k : Int)] [] I L (gG D) 0 0 (xD (some (xi (pcontent (cvw (I 10) (I 11) (I 12) (I 13) (I 14) (I 98) (I 99) (I 100) (I 111))))) I L (gG D)) := by
    refine xfor ?_ ?_
    · refine b_88_98 (by omega) ?_
      repeat' first | (with_reducible intro _) | (with_reducible refine And.intro ?_ ?_)
      all_goals first | omega | assumption | skip
      exact xD_in
    · intro k hk ih 
      have e := pcont_succ (a := (cvw (I 10) (I 11) (I 12) (I 13) (I 14) (I 98) (I 99) (I 100) (I 111))) (n := k) (by omega)
      refine b_88_98 (by omega) ?_
      repeat' first | (with_reducible intro _) | (with_reducible refine And.intro ?_ ?_)
      all_goals first | omega | assumption | skip
      all_goals first | (rw [if_pos (by assumption)] at e; rw [e] at ih; exact ih) | (rw [if_neg (by assumption)] at e; rw [e] at ih; exact ih)
  exact key 0 (Nat.zero_le _)
set_option maxRecDepth 8000 in
theorem sg_89_0_98 {d : Nat} {I : XI} {L : XL} {D : GD} {post : XQ}  {u1 : Int} (h : xR d 89 es_89 3 [xr (some 98), xi u1] [xi u1, xr (some 10)] I L (gG D) 0 0 post) : xR d 89 es_89 0 [xr (some 98), xi u1] [] I L (gG D) 0 0 post := xW_R (fun k => Nat.beq k 3) 3 _ _ _ _ _ _ _ _ _ _ _ _ h
set_option maxRecDepth 8000 in
theorem sg_89_4_98 {d : Nat} {I : XI} {L : XL} {D : GD} {post : XQ}  {u1 : Int} {w0 : Int} (h : ((-2147483648 ≤ w0 ∧ w0 ≤ 2147483647) ∧ ((w0 = 0 → post none I L (gG D)) ∧ (¬ w0 = 0 → ((0 ≤ u1 ∧ u1 < (5 : Int)) ∧ (((-2147483648 ≤ (99 : Int) ∧ (99 : Int) ≤ 2147483647) ∧ (-2147483648 ≤ ((I 100 u1) + (I 10 (2 : Int))) ∧ ((I 100 u1) + (I 10 (2 : Int))) ≤ 2147483647) ∧ 1 ≤ d ∧ 2 ≤ 8) ∧ ((0 ≤ u1 ∧ u1 < (5 : Int)) ∧ post none (xwr I 100 u1 (if ((I 100 u1) + (I 10 (2 : Int))) < (99 : Int) then ((I 100 u1) + (I 10 (2 : Int))) else (99 : Int))) L (gG D)))))))) : xR d 89 es_89 4 [xr (some 98), xi u1] [xi w0] I L (gG D) 0 0 post := xW_R (fun k => Nat.beq k 3) 16 _ _ _ _ _ _ _ _ _ _ _ _ h
set_option maxRecDepth 8000 in
theorem w_89_98 {d : Nat} {I : XI} {L : XL} {D : GD} {post : XQ}   {g : Int} (hd : 1 ≤ d) (h : (((0 ≤ I 10 (4 : Int) ∧ I 10 (4 : Int) ≤ 5) ∧ (-2147483648 ≤ g ∧ g ≤ 2147483647)) ∧ (((¬ (0 ≤ g ∧ g < I 10 (4 : Int)) → post none I L (gG D)) ∧ (0 ≤ g ∧ g < I 10 (4 : Int) → (((0 ≤ g ∧ g < (5 : Int))) ∧ (((-2147483648 ≤ ((I 100 g) + (I 10 (2 : Int))) ∧ ((I 100 g) + (I 10 (2 : Int))) ≤ 2147483647)) ∧ post none (xsc I 100 (xup (I 100) g (if ((I 100 g) + (I 10 (2 : Int))) < (99 : Int) then ((I 100 g) + (I 10 (2 : Int))) else (99 : Int)))) L (gG D)))))))) : xR d 89 es_89 0 [xr (some 98), xi g] [] I L (gG D) 0 0 post := sg_89_0_98  ((xR_cF rfl rfl rfl (c_9 h.1) (by omega) (sg_89_4_98  ⟨(xb_rg _), ⟨fun q710 => (h.2.1 (xb_0 q710)), fun q711 => ⟨(h.2.2 (xb_n0 q711)).1, ⟨⟨(by decide), (h.2.2 (xb_n0 q711)).2.1, (by omega), (by decide)⟩, ⟨(h.2.2 (xb_n0 q711)).1, (h.2.2 (xb_n0 q711)).2.2⟩⟩⟩⟩⟩)))
theorem c_89_98 {I : XI} {L : XL} {D : GD}   {g : Int} (h : (CO (I 10) (I 11) (I 12) (I 13) (I 14) (I 15) (I 98) (I 99) (I 100) (I 111) ∧ (0 ≤ g ∧ g < I 10 (4 : Int)))) : xM 1 89 [xr (some 98), xi g] I L (gG D) (0, 0) (xD none (xsc I 100 (xup (I 100) g (pstir (cvw (I 10) (I 11) (I 12) (I 13) (I 14) (I 98) (I 99) (I 100) (I 111)) g (21 + g)))) L (gG D)) := by
  intro d hd
  obtain ⟨hC, h1⟩ := h
  have hn := hC.n
  have hg := hC.g
  have hu := hC.u h1.1 h1.2
  have hst := hC.st
  have e : pstir (cvw (I 10) (I 11) (I 12) (I 13) (I 14) (I 98) (I 99) (I 100) (I 111)) g (21 + g) = if 99 < I 100 g + I 10 2 then 99 else I 100 g + I 10 2 := by
    unfold pstir
    rw [xup_same, cvw_u h1 (by omega)]
    rfl
  rw [e]
  refine w_89_98 (by omega) ?_
  repeat' first | (with_reducible intro _) | (with_reducible refine And.intro ?_ ?_)
  all_goals first | omega | exact ⟨hg, by omega⟩ | skip
  refine xD_eq rfl ?_ rfl
  congr 2
  split <;> split <;> omega
set_option maxRecDepth 8000 in
theorem sg_90_0_98 {d : Nat} {I : XI} {L : XL} {D : GD} {post : XQ}  {u1 : Int} {u2 : Int} (h : xR d 90 es_90 3 [xr (some 98), xi u1, xi u2, xt 0] [xi u1, xr (some 10)] I L (gG D) 0 0 post) : xR d 90 es_90 0 [xr (some 98), xi u1, xi u2, xt 0] [] I L (gG D) 0 0 post := xW_R (fun k => Nat.beq k 3 || Nat.beq k 8) 3 _ _ _ _ _ _ _ _ _ _ _ _ h
set_option maxRecDepth 8000 in
theorem sg_90_4_98 {d : Nat} {I : XI} {L : XL} {D : GD} {post : XQ}  {u1 : Int} {u2 : Int} {w0 : Int} (h : ((-2147483648 ≤ w0 ∧ w0 ≤ 2147483647) ∧ ((w0 = 0 → post none I L (gG D)) ∧ (¬ w0 = 0 → xR d 90 es_90 8 [xr (some 98), xi u1, xi u2, xt 0] [xi u2, xr (some 10)] I L (gG D) 0 0 post)))) : xR d 90 es_90 4 [xr (some 98), xi u1, xi u2, xt 0] [xi w0] I L (gG D) 0 0 post := xW_R (fun k => Nat.beq k 3 || Nat.beq k 8) 4 _ _ _ _ _ _ _ _ _ _ _ _ h
set_option maxRecDepth 8000 in
theorem sg_90_9_98 {d : Nat} {I : XI} {L : XL} {D : GD} {post : XQ}  {u1 : Int} {u2 : Int} {w0 : Int} (h : ((-2147483648 ≤ w0 ∧ w0 ≤ 2147483647) ∧ ((w0 = 0 → post none I L (gG D)) ∧ (¬ w0 = 0 → ((0 ≤ u1 ∧ u1 < (10 : Int)) ∧ ((0 ≤ u2 ∧ u2 < (10 : Int)) ∧ ((0 ≤ u1 ∧ u1 < (10 : Int)) ∧ ((0 ≤ u2 ∧ u2 < (10 : Int)) ∧ post none (xwr (xwr I 99 u1 (I 99 u2)) 99 u2 (I 99 u1)) L (gG D))))))))) : xR d 90 es_90 9 [xr (some 98), xi u1, xi u2, xt 0] [xi w0] I L (gG D) 0 0 post := xW_R (fun k => Nat.beq k 3 || Nat.beq k 8) 20 _ _ _ _ _ _ _ _ _ _ _ _ h
set_option maxRecDepth 8000 in
theorem w_90_98 {d : Nat} {I : XI} {L : XL} {D : GD} {post : XQ}   {o : Int} {p : Int} (hd : 1 ≤ d) (h : (((0 ≤ I 10 (3 : Int) ∧ I 10 (3 : Int) ≤ 10) ∧ (-2147483648 ≤ o ∧ o ≤ 2147483647)) ∧ (((¬ (0 ≤ o ∧ o < I 10 (3 : Int)) → post none I L (gG D)) ∧ (0 ≤ o ∧ o < I 10 (3 : Int) → (((0 ≤ I 10 (3 : Int) ∧ I 10 (3 : Int) ≤ 10) ∧ (-2147483648 ≤ p ∧ p ≤ 2147483647)) ∧ (((¬ (0 ≤ p ∧ p < I 10 (3 : Int)) → post none I L (gG D)) ∧ (0 ≤ p ∧ p < I 10 (3 : Int) → (((0 ≤ o ∧ o < (10 : Int))) ∧ (((0 ≤ p ∧ p < (10 : Int))) ∧ post none (xsc I 99 (xup (xup (I 99) o (I 99 p)) p (I 99 o))) L (gG D)))))))))))) : xR d 90 es_90 0 [xr (some 98), xi o, xi p, xt 0] [] I L (gG D) 0 0 post := sg_90_0_98  ((xR_cF rfl rfl rfl (c_8 h.1) (by omega) (sg_90_4_98  ⟨(xb_rg _), ⟨fun q714 => (h.2.1 (xb_0 q714)), fun q715 => (xR_cF rfl rfl rfl (c_8 (h.2.2 (xb_n0 q715)).1) (by omega) (sg_90_9_98  ⟨(xb_rg _), ⟨fun q712 => ((h.2.2 (xb_n0 q715)).2.1 (xb_0 q712)), fun q713 => ⟨((h.2.2 (xb_n0 q715)).2.2 (xb_n0 q713)).1, ⟨((h.2.2 (xb_n0 q715)).2.2 (xb_n0 q713)).2.1, ⟨((h.2.2 (xb_n0 q715)).2.2 (xb_n0 q713)).1, ⟨((h.2.2 (xb_n0 q715)).2.2 (xb_n0 q713)).2.1, (xpost ((h.2.2 (xb_n0 q715)).2.2 (xb_n0 q713)).2.2 (funext fun i => (xpt rfl (fun h99_ => (by simp only [xsc_ne _ _ h99_, xwr_ne _ _ _ h99_])))) rfl)⟩⟩⟩⟩⟩⟩))⟩⟩)))
theorem c_90_98 {I : XI} {L : XL} {D : GD}   {o : Int} {p : Int} (h : (CO (I 10) (I 11) (I 12) (I 13) (I 14) (I 15) (I 98) (I 99) (I 100) (I 111) ∧ (0 ≤ o ∧ o < I 10 (3 : Int)) ∧ (0 ≤ p ∧ p < I 10 (3 : Int)))) : xM 1 90 [xr (some 98), xi o, xi p] I L (gG D) (0, 0) (xD none (xsc I 99 (xup (xup (I 99) o (I 99 p)) p (I 99 o))) L (gG D)) := by
  intro d hd
  obtain ⟨hC, h1, h2⟩ := h
  have hn := hC.n
  have hg := hC.g
  refine w_90_98 (by omega) ?_
  repeat' first | (with_reducible intro _) | (with_reducible refine And.intro ?_ ?_)
  all_goals first | omega | exact ⟨hn, by omega⟩ | exact xD_in
