set_option maxRecDepth 8000 in
theorem sg_9_0_d {d : Nat} {I : XI} {L : XL} {D : GD} {post : XQ}  {u1 : Int} (h : ((-2147483648 ≤ u1 ∧ u1 ≤ 2147483647) ∧ ((u1 < 0 → (((0 : Int) = 0 ∨ (0 : Int) = 1) ∧ post (some (xi (0 : Int))) I L (gG D))) ∧ (0 ≤ u1 → (((-2147483648 ≤ u1 ∧ u1 ≤ 2147483647) ∧ (-2147483648 ≤ (I 25 (4 : Int)) ∧ (I 25 (4 : Int)) ≤ 2147483647)) ∧ (((I 25 (4 : Int)) ≤ u1 → (((0 : Int) = 0 ∨ (0 : Int) = 1) ∧ post (some (xi (0 : Int))) I L (gG D))) ∧ (u1 < (I 25 (4 : Int)) → (((1 : Int) = 0 ∨ (1 : Int) = 1) ∧ post (some (xi (1 : Int))) I L (gG D))))))))) : xR d 9 es_9 0 [xr (some 25), xi u1] [] I L (gG D) 0 0 post := xW_R (fun k => false) 9 _ _ _ _ _ _ _ _ _ _ _ _ h
set_option maxRecDepth 8000 in
theorem w_9_d {d : Nat} {I : XI} {L : XL} {D : GD} {post : XQ}   {g : Int} (hd : 0 ≤ d) (h : (((-2147483648 ≤ g ∧ g ≤ 2147483647)) ∧ ((g < 0 → post (some (xi (0 : Int))) I L (gG D)) ∧ (0 ≤ g → (((-2147483648 ≤ (I 25 (4 : Int)) ∧ (I 25 (4 : Int)) ≤ 2147483647)) ∧ (((I 25 (4 : Int)) ≤ g → post (some (xi (0 : Int))) I L (gG D)) ∧ (g < (I 25 (4 : Int)) → post (some (xi (1 : Int))) I L (gG D)))))))) : xR d 9 es_9 0 [xr (some 25), xi g] [] I L (gG D) 0 0 post := sg_9_0_d  (⟨h.1, ⟨fun q4011 => ⟨(by decide), (h.2.1 q4011)⟩, fun q4012 => ⟨⟨h.1, (h.2.2 q4012).1⟩, ⟨fun q4009 => ⟨(by decide), ((h.2.2 q4012).2.1 q4009)⟩, fun q4010 => ⟨(by decide), ((h.2.2 q4012).2.2 q4010)⟩⟩⟩⟩⟩)
theorem c_9_d {I : XI} {L : XL} {D : GD}   {g : Int} (h : ((0 ≤ I 25 (4 : Int) ∧ I 25 (4 : Int) ≤ 5) ∧ (-2147483648 ≤ g ∧ g ≤ 2147483647))) : xM 0 9 [xr (some 25), xi g] I L (gG D) (0, 0) (xD (some (xi (xb (0 ≤ g ∧ g < I 25 (4 : Int))))) I L (gG D)) := by
  intro d hd
  have h1 := h.1
  have h2 := h.2
  refine w_9_d (by omega) ?_
  repeat' first | (with_reducible intro _) | (with_reducible refine And.intro ?_ ?_)
  all_goals first | omega | exact xD_in | assumption | (refine xD_eq ?_ rfl rfl; first | rfl | rw [xb_t (by omega)] | rw [xb_f (by omega)] | (rw [xb_t (by assumption)]) | (rw [xb_f (by assumption)]) | (rw [xb_t (by simp_all; done)]) | (rw [xb_f (by simp_all; done)]))
set_option maxRecDepth 8000 in
theorem sg_10_0_d {d : Nat} {I : XI} {L : XL} {D : GD} {post : XQ}  {u1 : Int} {u2 : Int} (h : xR d 10 es_10 2 [xr (some 25), xi u1, xi u2] [xi u1, xr (some 25)] I L (gG D) 0 0 post) : xR d 10 es_10 0 [xr (some 25), xi u1, xi u2] [] I L (gG D) 0 0 post := xW_R (fun k => Nat.beq k 2) 2 _ _ _ _ _ _ _ _ _ _ _ _ h
set_option maxRecDepth 8000 in
theorem sg_10_3_d {d : Nat} {I : XI} {L : XL} {D : GD} {post : XQ}  {u1 : Int} {u2 : Int} {w0 : Int} (h : ((-2147483648 ≤ w0 ∧ w0 ≤ 2147483647) ∧ ((w0 = 0 → post (some (xi (0 : Int))) I L (gG D)) ∧ (¬ w0 = 0 → ((-2147483648 ≤ u2 ∧ u2 ≤ 2147483647) ∧ ((u2 < 0 → post (some (xi (0 : Int))) I L (gG D)) ∧ (0 ≤ u2 → (((-2147483648 ≤ u2 ∧ u2 ≤ 2147483647) ∧ (-2147483648 ≤ (4 : Int) ∧ (4 : Int) ≤ 2147483647)) ∧ (((4 : Int) ≤ u2 → post (some (xi (0 : Int))) I L (gG D)) ∧ (u2 < (4 : Int) → ((0 ≤ ((u1 * (4 : Int)) + u2) ∧ ((u1 * (4 : Int)) + u2) < (20 : Int)) ∧ post (some (xi (I 29 ((u1 * (4 : Int)) + u2)))) I L (gG D)))))))))))) : xR d 10 es_10 3 [xr (some 25), xi u1, xi u2] [xi w0] I L (gG D) 0 0 post := xW_R (fun k => Nat.beq k 2) 16 _ _ _ _ _ _ _ _ _ _ _ _ h
set_option maxRecDepth 8000 in
theorem w_10_d {d : Nat} {I : XI} {L : XL} {D : GD} {post : XQ}   {g : Int} {kq : Int} (hd : 1 ≤ d) (h : (((0 ≤ I 25 (4 : Int) ∧ I 25 (4 : Int) ≤ 5) ∧ (-2147483648 ≤ g ∧ g ≤ 2147483647)) ∧ (((¬ (0 ≤ g ∧ g < I 25 (4 : Int)) → post (some (xi (0 : Int))) I L (gG D)) ∧ (0 ≤ g ∧ g < I 25 (4 : Int) → (((-2147483648 ≤ kq ∧ kq ≤ 2147483647)) ∧ ((kq < 0 → post (some (xi (0 : Int))) I L (gG D)) ∧ (0 ≤ kq → ((((4 : Int) ≤ kq → post (some (xi (0 : Int))) I L (gG D)) ∧ (kq < (4 : Int) → (((0 ≤ ((g * (4 : Int)) + kq) ∧ ((g * (4 : Int)) + kq) < (20 : Int))) ∧ post (some (xi (I 29 ((g * (4 : Int)) + kq)))) I L (gG D))))))))))))) : xR d 10 es_10 0 [xr (some 25), xi g, xi kq] [] I L (gG D) 0 0 post := sg_10_0_d  ((xR_cF rfl rfl rfl (c_9_d h.1) (by omega) (sg_10_3_d  ⟨(xb_rg _), ⟨fun q4017 => (h.2.1 (xb_0 q4017)), fun q4018 => ⟨(h.2.2 (xb_n0 q4018)).1, ⟨fun q4015 => ((h.2.2 (xb_n0 q4018)).2.1 q4015), fun q4016 => ⟨⟨(h.2.2 (xb_n0 q4018)).1, (by decide)⟩, ⟨fun q4013 => (((h.2.2 (xb_n0 q4018)).2.2 q4016).1 q4013), fun q4014 => ⟨(((h.2.2 (xb_n0 q4018)).2.2 q4016).2 q4014).1, (((h.2.2 (xb_n0 q4018)).2.2 q4016).2 q4014).2⟩⟩⟩⟩⟩⟩⟩)))
theorem c_10_d {I : XI} {L : XL} {D : GD}   {g : Int} {kq : Int} (h : ((0 ≤ I 25 (4 : Int) ∧ I 25 (4 : Int) ≤ 5) ∧ (0 ≤ g ∧ g < I 25 (4 : Int)) ∧ (0 ≤ kq ∧ kq < 4))) : xM 1 10 [xr (some 25), xi g, xi kq] I L (gG D) (0, 0) (xD (some (xi (I 29 (g * 4 + kq)))) I L (gG D)) := by
  intro d hd
  have h1 := h.1
  have h2 := h.2.1
  have h3 := h.2.2
  refine w_10_d (by omega) ?_
  repeat' first | (with_reducible intro _) | (with_reducible refine And.intro ?_ ?_)
  all_goals first | omega | exact xD_in | assumption | (refine xD_eq ?_ rfl rfl; first | rfl | rw [xb_t (by omega)] | rw [xb_f (by omega)] | (rw [xb_t (by assumption)]) | (rw [xb_f (by assumption)]) | (rw [xb_t (by simp_all; done)]) | (rw [xb_f (by simp_all; done)]))
set_option maxRecDepth 8000 in
theorem sg_19_0_d {d : Nat} {I : XI} {L : XL} {D : GD} {post : XQ}   (h : xR d 19 es_19 2 [xr (some 25), xi (0 : Int), xt 0] [] I L (gG D) 0 0 post) : xR d 19 es_19 0 [xr (some 25), xt 0, xt 0] [] I L (gG D) 0 0 post := xW_R (fun k => Nat.beq k 2 || Nat.beq k 8 || Nat.beq k 29) 2 _ _ _ _ _ _ _ _ _ _ _ _ h
set_option maxRecDepth 8000 in
theorem w_19_d {d : Nat} {I : XI} {L : XL} {D : GD} {post : XQ}    (hd : 0 ≤ d) (h : xR d 19 es_19 2 [xr (some 25), xi (0 : Int), xt 0] [] I L (gG D) 0 0 post) : xR d 19 es_19 0 [xr (some 25), xt 0, xt 0] [] I L (gG D) 0 0 post := sg_19_0_d  (h)
set_option maxRecDepth 8000 in
theorem sg_19_2_d {d : Nat} {I : XI} {L : XL} {D : GD} {post : XQ}  {u1 : Int} {u2 : XV} (h : (((-2147483648 ≤ u1 ∧ u1 ≤ 2147483647) ∧ (-2147483648 ≤ (I 25 (4 : Int)) ∧ (I 25 (4 : Int)) ≤ 2147483647)) ∧ (((I 25 (4 : Int)) ≤ u1 → post none I L (gG D)) ∧ (u1 < (I 25 (4 : Int)) → xR d 19 es_19 8 [xr (some 25), xi u1, xi (0 : Int)] [] I L (gG D) 0 0 post)))) : xR d 19 es_19 2 [xr (some 25), xi u1, u2] [] I L (gG D) 0 0 post := xW_R (fun k => Nat.beq k 2 || Nat.beq k 8 || Nat.beq k 29) 6 _ _ _ _ _ _ _ _ _ _ _ _ h
set_option maxRecDepth 8000 in
theorem b_19a {d : Nat} {I : XI} {L : XL} {D : GD} {post : XQ} {Wt : Int → Int}  {g : Int} {x2 : XV} (hd : 0 ≤ d) (h : (((-2147483648 ≤ g ∧ g ≤ 2147483647) ∧ (-2147483648 ≤ (I 25 (4 : Int)) ∧ (I 25 (4 : Int)) ≤ 2147483647)) ∧ (((I 25 (4 : Int)) ≤ g → post none (xsc I 30 Wt) L (gG D)) ∧ (g < (I 25 (4 : Int)) → xR d 19 es_19 8 [xr (some 25), xi g, xi (0 : Int)] [] (xsc I 30 Wt) L (gG D) 0 0 post)))) : xR d 19 es_19 2 [xr (some 25), xi g, x2] [] (xsc I 30 Wt) L (gG D) 0 0 post := sg_19_2_d  (⟨⟨h.1.1, h.1.2⟩, ⟨fun q4019 => (h.2.1 q4019), fun q4020 => (h.2.2 q4020)⟩⟩)
set_option maxRecDepth 8000 in
theorem sg_19_8_d {d : Nat} {I : XI} {L : XL} {D : GD} {post : XQ}  {u1 : Int} {u2 : Int} (h : (((-2147483648 ≤ u2 ∧ u2 ≤ 2147483647) ∧ (-2147483648 ≤ (I 25 (3 : Int)) ∧ (I 25 (3 : Int)) ≤ 2147483647)) ∧ (((I 25 (3 : Int)) ≤ u2 → xR d 19 es_19 2 [xr (some 25), xi (u1 + (1 : Int)), xi u2] [] I L (gG D) 0 0 post) ∧ (u2 < (I 25 (3 : Int)) → ((0 ≤ u2 ∧ u2 < (10 : Int)) ∧ ((0 ≤ u2 ∧ u2 < (10 : Int)) ∧ xR d 19 es_19 29 [xr (some 25), xi u1, xi u2] [xi (I 26 u2), xi u1, xr (some 25), xi (I 27 u2), xi ((u1 * (10 : Int)) + u2), xr (some 30)] I L (gG D) 0 0 post)))))) : xR d 19 es_19 8 [xr (some 25), xi u1, xi u2] [] I L (gG D) 0 0 post := xW_R (fun k => Nat.beq k 2 || Nat.beq k 8 || Nat.beq k 29) 21 _ _ _ _ _ _ _ _ _ _ _ _ h
set_option maxRecDepth 8000 in
theorem sg_19_30_d {d : Nat} {I : XI} {L : XL} {D : GD} {post : XQ}  {u1 : Int} {u2 : Int} {w1 : Int} {w2 : Int} {w3 : Int} (h : ((0 ≤ w1 ∧ w1 < (50 : Int)) ∧ xR d 19 es_19 8 [xr (some 25), xi u1, xi (u2 + (1 : Int))] [] (xwr I 30 w1 (w2 * w3)) L (gG D) 0 0 post)) : xR d 19 es_19 30 [xr (some 25), xi u1, xi u2] [xi w3, xi w2, xi w1, xr (some 30)] I L (gG D) 0 0 post := xW_R (fun k => Nat.beq k 2 || Nat.beq k 8 || Nat.beq k 29) 4 _ _ _ _ _ _ _ _ _ _ _ _ h
set_option maxRecDepth 8000 in
theorem b_19b {d : Nat} {I : XI} {L : XL} {D : GD} {post : XQ} {Wt : Int → Int}  {g : Int} {s : Int} (hd : 2 ≤ d) (h : (((-2147483648 ≤ s ∧ s ≤ 2147483647) ∧ (-2147483648 ≤ (I 25 (3 : Int)) ∧ (I 25 (3 : Int)) ≤ 2147483647)) ∧ (((I 25 (3 : Int)) ≤ s → xR d 19 es_19 2 [xr (some 25), xi (g + (1 : Int)), xi s] [] (xsc I 30 Wt) L (gG D) 0 0 post) ∧ (s < (I 25 (3 : Int)) → (((0 ≤ s ∧ s < (10 : Int))) ∧ (((0 ≤ I 25 (4 : Int) ∧ I 25 (4 : Int) ≤ 5) ∧ (0 ≤ g ∧ g < I 25 (4 : Int)) ∧ (0 ≤ (I 26 s) ∧ (I 26 s) < 4)) ∧ (((0 ≤ ((g * (10 : Int)) + s) ∧ ((g * (10 : Int)) + s) < (50 : Int))) ∧ xR d 19 es_19 8 [xr (some 25), xi g, xi (s + (1 : Int))] [] (xsc I 30 (xup Wt ((g * (10 : Int)) + s) ((I 27 s) * (I 29 (g * 4 + (I 26 s)))))) L (gG D) 0 0 post))))))) : xR d 19 es_19 8 [xr (some 25), xi g, xi s] [] (xsc I 30 Wt) L (gG D) 0 0 post := sg_19_8_d  (⟨⟨h.1.1, h.1.2⟩, ⟨fun q4021 => (h.2.1 q4021), fun q4022 => ⟨(h.2.2 q4022).1, ⟨(h.2.2 q4022).1, (xR_cF rfl rfl rfl (c_10_d (h.2.2 q4022).2.1) (by omega) (sg_19_30_d  ⟨(h.2.2 q4022).2.2.1, (xR_memc (h.2.2 q4022).2.2.2 (funext fun i => (xpt rfl (fun h30_ => (by simp only [xsc_ne _ _ h30_, xwr_ne _ _ _ h30_])))) rfl)⟩))⟩⟩⟩⟩)
theorem c_19_d {I : XI} {L : XL} {D : GD}    (h : ((0 ≤ I 25 (3 : Int) ∧ I 25 (3 : Int) ≤ 10) ∧ (0 ≤ I 25 (4 : Int) ∧ I 25 (4 : Int) ≤ 5) ∧ (∀ s, 0 ≤ s → s < I 25 (3 : Int) → 0 ≤ (I 26) s ∧ (I 26) s < 4))) : xM 2 19 [xr (some 25)] I L (gG D) (0, 0) (fun r2 I2 L2 G2 => ∃ (W9 : Int → Int), (∀ g s, 0 ≤ g → g < I 25 (4 : Int) → 0 ≤ s → s < I 25 (3 : Int) → W9 (g * 10 + s) = (I 27) s * (I 29) (g * 4 + (I 26) s)) ∧ r2 = none ∧ I2 = (xsc I 30 W9) ∧ L2 = L ∧ G2 = (gG D)) := by
  intro d hd
  obtain ⟨hN, hG, hK⟩ := h
  refine w_19_d (by omega) ?_
  have keyb : ∀ (g : Int), 0 ≤ g → g < I 25 4 → (∀ (x2 : XV) (Wt : Int → Int), (∀ g2 s2, 0 ≤ g2 → g2 < g + 1 → 0 ≤ s2 → s2 < I 25 3 → Wt (g2 * 10 + s2) = I 27 s2 * I 29 (g2 * 4 + I 26 s2)) → xR d 19 es_19 2 [xr (some 25), xi (g + 1), x2] [] (xsc I 30 Wt) L (gG D) 0 0 (fun r2 I2 L2 G2 => ∃ (W9 : Int → Int), (∀ g s, 0 ≤ g → g < I 25 (4 : Int) → 0 ≤ s → s < I 25 (3 : Int) → W9 (g * 10 + s) = (I 27) s * (I 29) (g * 4 + (I 26) s)) ∧ r2 = none ∧ I2 = (xsc I 30 W9) ∧ L2 = L ∧ G2 = (gG D))) → ∀ k : Nat, k ≤ (I 25 3).toNat → ∀ Wt : Int → Int, (∀ g2 s2, 0 ≤ g2 → g2 < g → 0 ≤ s2 → s2 < I 25 3 → Wt (g2 * 10 + s2) = I 27 s2 * I 29 (g2 * 4 + I 26 s2)) → (∀ s2, 0 ≤ s2 → s2 < (k : Int) → Wt (g * 10 + s2) = I 27 s2 * I 29 (g * 4 + I 26 s2)) → xR d 19 es_19 8 [xr (some 25), xi g, xi (k : Int)] [] (xsc I 30 Wt) L (gG D) 0 0 (fun r2 I2 L2 G2 => ∃ (W9 : Int → Int), (∀ g s, 0 ≤ g → g < I 25 (4 : Int) → 0 ≤ s → s < I 25 (3 : Int) → W9 (g * 10 + s) = (I 27) s * (I 29) (g * 4 + (I 26) s)) ∧ r2 = none ∧ I2 = (xsc I 30 W9) ∧ L2 = L ∧ G2 = (gG D)) := by
    intro g g0 g1 hc
    refine xfor ?_ ?_
    · intro Wt h1 h2
      refine b_19b (by omega) ?_
      repeat' first | (with_reducible intro _) | (with_reducible refine And.intro ?_ ?_)
      all_goals first | omega | skip
      refine hc _ _ (fun g2 s2 a1 a2 a3 a4 => ?_)
      by_cases q : g2 = g
      · subst q; exact h2 s2 a3 (by omega)
      · exact h1 g2 s2 a1 (by omega) a3 a4
    · intro k hk ih Wt h1 h2
      have hkk := hK (k : Int) (by omega) (by omega)
      have hok : (0 ≤ I 25 4 ∧ I 25 4 ≤ 5) ∧ (0 ≤ g ∧ g < I 25 4) ∧ (0 ≤ I 26 (k : Int) ∧ I 26 (k : Int) < 4) := ⟨hG, by omega, by omega⟩
      refine b_19b (by omega) ?_
      repeat' first | (with_reducible intro _) | (with_reducible refine And.intro ?_ ?_)
      all_goals first | omega | assumption | skip
      refine ih _ (fun g2 s2 a1 a2 a3 a4 => ?_) (fun s2 a1 a2 => ?_)
      · rw [xup_ne _ _ (by omega)]; exact h1 g2 s2 a1 a2 a3 a4
      · by_cases q : s2 = (k : Int)
        · subst q; rw [xup_same]
        · rw [xup_ne _ _ (by omega)]; exact h2 s2 a1 (by omega)
  have keya : ∀ k : Nat, k ≤ (I 25 4).toNat → ∀ (x2 : XV) (Wt : Int → Int), (∀ g2 s2, 0 ≤ g2 → g2 < (k : Int) → 0 ≤ s2 → s2 < I 25 3 → Wt (g2 * 10 + s2) = I 27 s2 * I 29 (g2 * 4 + I 26 s2)) → xR d 19 es_19 2 [xr (some 25), xi (k : Int), x2] [] (xsc I 30 Wt) L (gG D) 0 0 (fun r2 I2 L2 G2 => ∃ (W9 : Int → Int), (∀ g s, 0 ≤ g → g < I 25 (4 : Int) → 0 ≤ s → s < I 25 (3 : Int) → W9 (g * 10 + s) = (I 27) s * (I 29) (g * 4 + (I 26) s)) ∧ r2 = none ∧ I2 = (xsc I 30 W9) ∧ L2 = L ∧ G2 = (gG D)) := by
    refine xfor ?_ ?_
    · intro x2 Wt h1
      refine b_19a (by omega) ?_
      repeat' first | (with_reducible intro _) | (with_reducible refine And.intro ?_ ?_)
      all_goals first | omega | skip
      exact ⟨Wt, fun g s a1 a2 a3 a4 => h1 g s a1 (by omega) a3 a4, rfl, rfl, rfl, rfl⟩
    · intro k hk ih x2 Wt h1
      refine b_19a (by omega) ?_
      repeat' first | (with_reducible intro _) | (with_reducible refine And.intro ?_ ?_)
      all_goals first | omega | skip
      exact keyb (k : Int) (by omega) (by omega) ih 0 (Nat.zero_le _) Wt h1 (fun s2 a1 a2 => by omega)
  exact xR_memc (keya 0 (Nat.zero_le _) (xt 0) (I 30) (fun g2 s2 a1 a2 => by omega)) (by (funext i; by_cases h30 : i = 30; (subst h30; first | rfl | exact (xcp_zero _ _ _ _).symm | exact (xup_self _ _).symm | exact (xup_self2 _ _ _).symm | exact (xup_self3 _ _ _ _).symm | exact xup_self _ _); first | rfl | simp only [xsc_ne _ _ h30])) rfl
set_option maxRecDepth 8000 in
theorem sg_94_0_t {d : Nat} {I : XI} {L : XL} {D : GD} {post : XQ}   (h : (((-2147483648 ≤ ((I 1 (5 : Int)) + (1 : Int)) ∧ ((I 1 (5 : Int)) + (1 : Int)) ≤ 2147483647) ∧ (-2147483648 ≤ (I 1 (4 : Int)) ∧ (I 1 (4 : Int)) ≤ 2147483647)) ∧ (((I 1 (4 : Int)) ≤ ((I 1 (5 : Int)) + (1 : Int)) → ((-2147483648 ≤ ((I 1 (4 : Int)) - (1 : Int)) ∧ ((I 1 (4 : Int)) - (1 : Int)) ≤ 2147483647) ∧ ((((I 1 (4 : Int)) - (1 : Int)) < 0 → post none (xwr I 1 (5 : Int) ((I 1 (4 : Int)) - (1 : Int))) L (gG D)) ∧ (0 ≤ ((I 1 (4 : Int)) - (1 : Int)) → (((-2147483648 ≤ ((I 1 (4 : Int)) - (1 : Int)) ∧ ((I 1 (4 : Int)) - (1 : Int)) ≤ 2147483647) ∧ (-2147483648 ≤ (400 : Int) ∧ (400 : Int) ≤ 2147483647)) ∧ (((400 : Int) < ((I 1 (4 : Int)) - (1 : Int)) → post none (xwr I 1 (5 : Int) ((I 1 (4 : Int)) - (1 : Int))) L (gG D)) ∧ (((I 1 (4 : Int)) - (1 : Int)) ≤ (400 : Int) → ((0 ≤ ((I 1 (4 : Int)) - (1 : Int)) ∧ ((I 1 (4 : Int)) - (1 : Int)) < (401 : Int)) ∧ ((0 ≤ ((I 1 (4 : Int)) - (1 : Int)) ∧ ((I 1 (4 : Int)) - (1 : Int)) < (401 : Int)) ∧ ((0 ≤ ((I 1 (4 : Int)) - (1 : Int)) ∧ ((I 1 (4 : Int)) - (1 : Int)) < (401 : Int)) ∧ post none (xwr (xwr (xwr (xwr I 1 (5 : Int) ((I 1 (4 : Int)) - (1 : Int))) 1 (7 : Int) (I 3 ((I 1 (4 : Int)) - (1 : Int)))) 1 (9 : Int) (I 4 ((I 1 (4 : Int)) - (1 : Int)))) 1 (8 : Int) (I 5 ((I 1 (4 : Int)) - (1 : Int)))) L (gG D))))))))))) ∧ (((I 1 (5 : Int)) + (1 : Int)) < (I 1 (4 : Int)) → ((-2147483648 ≤ ((I 1 (5 : Int)) + (1 : Int)) ∧ ((I 1 (5 : Int)) + (1 : Int)) ≤ 2147483647) ∧ ((((I 1 (5 : Int)) + (1 : Int)) < 0 → post none (xwr I 1 (5 : Int) ((I 1 (5 : Int)) + (1 : Int))) L (gG D)) ∧ (0 ≤ ((I 1 (5 : Int)) + (1 : Int)) → (((-2147483648 ≤ ((I 1 (5 : Int)) + (1 : Int)) ∧ ((I 1 (5 : Int)) + (1 : Int)) ≤ 2147483647) ∧ (-2147483648 ≤ (400 : Int) ∧ (400 : Int) ≤ 2147483647)) ∧ (((400 : Int) < ((I 1 (5 : Int)) + (1 : Int)) → post none (xwr I 1 (5 : Int) ((I 1 (5 : Int)) + (1 : Int))) L (gG D)) ∧ (((I 1 (5 : Int)) + (1 : Int)) ≤ (400 : Int) → ((0 ≤ ((I 1 (5 : Int)) + (1 : Int)) ∧ ((I 1 (5 : Int)) + (1 : Int)) < (401 : Int)) ∧ ((0 ≤ ((I 1 (5 : Int)) + (1 : Int)) ∧ ((I 1 (5 : Int)) + (1 : Int)) < (401 : Int)) ∧ ((0 ≤ ((I 1 (5 : Int)) + (1 : Int)) ∧ ((I 1 (5 : Int)) + (1 : Int)) < (401 : Int)) ∧ post none (xwr (xwr (xwr (xwr I 1 (5 : Int) ((I 1 (5 : Int)) + (1 : Int))) 1 (7 : Int) (I 3 ((I 1 (5 : Int)) + (1 : Int)))) 1 (9 : Int) (I 4 ((I 1 (5 : Int)) + (1 : Int)))) 1 (8 : Int) (I 5 ((I 1 (5 : Int)) + (1 : Int)))) L (gG D)))))))))))))) : xR d 94 es_94 0 [xr (some 1)] [] I L (gG D) 0 0 post := xW_R (fun k => false) 43 _ _ _ _ _ _ _ _ _ _ _ _ h
set_option maxRecDepth 8000 in
theorem w_94_t {d : Nat} {I : XI} {L : XL} {D : GD} {post : XQ}    (hd : 0 ≤ d) (h : (((-2147483648 ≤ ((I 1 (5 : Int)) + (1 : Int)) ∧ ((I 1 (5 : Int)) + (1 : Int)) ≤ 2147483647) ∧ (-2147483648 ≤ (I 1 (4 : Int)) ∧ (I 1 (4 : Int)) ≤ 2147483647)) ∧ (((I 1 (4 : Int)) ≤ ((I 1 (5 : Int)) + (1 : Int)) → (((-2147483648 ≤ ((I 1 (4 : Int)) - (1 : Int)) ∧ ((I 1 (4 : Int)) - (1 : Int)) ≤ 2147483647)) ∧ ((((I 1 (4 : Int)) - (1 : Int)) < 0 → post none (xsc I 1 (xup (I 1) (5 : Int) ((I 1 (4 : Int)) - (1 : Int)))) L (gG D)) ∧ (0 ≤ ((I 1 (4 : Int)) - (1 : Int)) → ((((400 : Int) < ((I 1 (4 : Int)) - (1 : Int)) → post none (xsc I 1 (xup (I 1) (5 : Int) ((I 1 (4 : Int)) - (1 : Int)))) L (gG D)) ∧ (((I 1 (4 : Int)) - (1 : Int)) ≤ (400 : Int) → (((0 ≤ ((I 1 (4 : Int)) - (1 : Int)) ∧ ((I 1 (4 : Int)) - (1 : Int)) < (401 : Int))) ∧ post none (xsc I 1 (xup (xup (xup (xup (I 1) (5 : Int) ((I 1 (4 : Int)) - (1 : Int))) (7 : Int) (I 3 ((I 1 (4 : Int)) - (1 : Int)))) (8 : Int) (I 5 ((I 1 (4 : Int)) - (1 : Int)))) (9 : Int) (I 4 ((I 1 (4 : Int)) - (1 : Int))))) L (gG D))))))))) ∧ (((I 1 (5 : Int)) + (1 : Int)) < (I 1 (4 : Int)) → (((((I 1 (5 : Int)) + (1 : Int)) < 0 → post none (xsc I 1 (xup (I 1) (5 : Int) ((I 1 (5 : Int)) + (1 : Int)))) L (gG D)) ∧ (0 ≤ ((I 1 (5 : Int)) + (1 : Int)) → ((((400 : Int) < ((I 1 (5 : Int)) + (1 : Int)) → post none (xsc I 1 (xup (I 1) (5 : Int) ((I 1 (5 : Int)) + (1 : Int)))) L (gG D)) ∧ (((I 1 (5 : Int)) + (1 : Int)) ≤ (400 : Int) → (((0 ≤ ((I 1 (5 : Int)) + (1 : Int)) ∧ ((I 1 (5 : Int)) + (1 : Int)) < (401 : Int))) ∧ post none (xsc I 1 (xup (xup (xup (xup (I 1) (5 : Int) ((I 1 (5 : Int)) + (1 : Int))) (7 : Int) (I 3 ((I 1 (5 : Int)) + (1 : Int)))) (8 : Int) (I 5 ((I 1 (5 : Int)) + (1 : Int)))) (9 : Int) (I 4 ((I 1 (5 : Int)) + (1 : Int))))) L (gG D)))))))))))) : xR d 94 es_94 0 [xr (some 1)] [] I L (gG D) 0 0 post := sg_94_0_t  (⟨⟨h.1.1, h.1.2⟩, ⟨fun q4031 => ⟨(h.2.1 q4031).1, ⟨fun q4025 => ((h.2.1 q4031).2.1 q4025), fun q4026 => ⟨⟨(h.2.1 q4031).1, (by decide)⟩, ⟨fun q4023 => (((h.2.1 q4031).2.2 q4026).1 q4023), fun q4024 => ⟨(((h.2.1 q4031).2.2 q4026).2 q4024).1, ⟨(((h.2.1 q4031).2.2 q4026).2 q4024).1, ⟨(((h.2.1 q4031).2.2 q4026).2 q4024).1, (xpost (((h.2.1 q4031).2.2 q4026).2 q4024).2 (funext fun i => (xpt (show (xup (xup (xup (xup (I 1) (5 : Int) ((I 1 (4 : Int)) - (1 : Int))) (7 : Int) (I 3 ((I 1 (4 : Int)) - (1 : Int)))) (9 : Int) (I 4 ((I 1 (4 : Int)) - (1 : Int)))) (8 : Int) (I 5 ((I 1 (4 : Int)) - (1 : Int)))) = (xup (xup (xup (xup (I 1) (5 : Int) ((I 1 (4 : Int)) - (1 : Int))) (7 : Int) (I 3 ((I 1 (4 : Int)) - (1 : Int)))) (8 : Int) (I 5 ((I 1 (4 : Int)) - (1 : Int)))) (9 : Int) (I 4 ((I 1 (4 : Int)) - (1 : Int)))) from by funext j; by_cases hj5 : j = 5; (subst hj5; rfl); by_cases hj7 : j = 7; (subst hj7; rfl); by_cases hj8 : j = 8; (subst hj8; rfl); by_cases hj9 : j = 9; (subst hj9; rfl); simp only [xup, if_neg hj5, if_neg hj7, if_neg hj8, if_neg hj9]) (fun h1_ => (by simp only [xsc_ne _ _ h1_, xwr_ne _ _ _ h1_])))) rfl)⟩⟩⟩⟩⟩⟩⟩, fun q4032 => ⟨h.1.1, ⟨fun q4029 => ((h.2.2 q4032).1 q4029), fun q4030 => ⟨⟨h.1.1, (by decide)⟩, ⟨fun q4027 => (((h.2.2 q4032).2 q4030).1 q4027), fun q4028 => ⟨(((h.2.2 q4032).2 q4030).2 q4028).1, ⟨(((h.2.2 q4032).2 q4030).2 q4028).1, ⟨(((h.2.2 q4032).2 q4030).2 q4028).1, (xpost (((h.2.2 q4032).2 q4030).2 q4028).2 (funext fun i => (xpt (show (xup (xup (xup (xup (I 1) (5 : Int) ((I 1 (5 : Int)) + (1 : Int))) (7 : Int) (I 3 ((I 1 (5 : Int)) + (1 : Int)))) (9 : Int) (I 4 ((I 1 (5 : Int)) + (1 : Int)))) (8 : Int) (I 5 ((I 1 (5 : Int)) + (1 : Int)))) = (xup (xup (xup (xup (I 1) (5 : Int) ((I 1 (5 : Int)) + (1 : Int))) (7 : Int) (I 3 ((I 1 (5 : Int)) + (1 : Int)))) (8 : Int) (I 5 ((I 1 (5 : Int)) + (1 : Int)))) (9 : Int) (I 4 ((I 1 (5 : Int)) + (1 : Int)))) from by funext j; by_cases hj5 : j = 5; (subst hj5; rfl); by_cases hj7 : j = 7; (subst hj7; rfl); by_cases hj8 : j = 8; (subst hj8; rfl); by_cases hj9 : j = 9; (subst hj9; rfl); simp only [xup, if_neg hj5, if_neg hj7, if_neg hj8, if_neg hj9]) (fun h1_ => (by simp only [xsc_ne _ _ h1_, xwr_ne _ _ _ h1_])))) rfl)⟩⟩⟩⟩⟩⟩⟩⟩⟩)
theorem c_94_t {I : XI} {L : XL} {D : GD}    (h : TXT (I 1) (I 2) (I 3) (I 4) (I 5)) : xM 0 94 [xr (some 1)] I L (gG D) (0, 0) (fun r2 I2 L2 G2 => ∃ (T9 : Int → Int), (TXT T9 (I 2) (I 3) (I 4) (I 5) ∧ T9 9 = (nxt (I 2) (I 1 (6 : Int)) (I 1 (9 : Int))) ∧ T9 7 = (tkk (I 2) (I 1 (6 : Int)) (nxt (I 2) (I 1 (6 : Int)) (I 1 (9 : Int)))) ∧ T9 8 = (tkv (I 2) (I 1 (6 : Int)) (nxt (I 2) (I 1 (6 : Int)) (I 1 (9 : Int)))) ∧ T9 10 = I 1 (10 : Int) ∧ T9 6 = I 1 (6 : Int)) ∧ r2 = none ∧ I2 = (xsc I 1 T9) ∧ L2 = L ∧ G2 = (gG D)) := by
  intro d hd
  have hX := h
  obtain ⟨hT, hK, h3, h4, h5, h6⟩ := h
  obtain ⟨n1, n2, n3⟩ := hX.nx
  have hT1 := hT.1
  have hk1 := hK.1
  have hn := nxt_in (b := I 2) n1.2
  refine w_94_t (by omega) ?_
  by_cases q : I 1 5 + 1 < I 1 4
  · have e := n2 q
    have hh := hK.2.2.2 (I 1 5 + 1) (by omega) q
    rw [e] at hh
    repeat' first | (with_reducible intro _) | (with_reducible refine And.intro ?_ ?_)
    all_goals first | omega | skip
    rw [e, hh.2.1, hh.2.2.1]
    exact ⟨xup (xup (xup (xup (I 1) 5 (I 1 5 + 1)) 7 (tkk (I 2) (I 1 6) (nxt (I 2) (I 1 6) (I 1 9)))) 8 (tkv (I 2) (I 1 6) (nxt (I 2) (I 1 6) (I 1 9)))) 9 (nxt (I 2) (I 1 6) (I 1 9)), ⟨⟨hT, hK, ⟨(by omega : 0 ≤ I 1 5 + 1), q⟩, e, rfl, rfl⟩, rfl, rfl, rfl, rfl, rfl⟩, rfl, rfl, rfl, rfl⟩
  · have e := n3 q
    have hh := hK.2.2.2 (I 1 4 - 1) (by omega) (by omega)
    rw [e] at hh
    repeat' first | (with_reducible intro _) | (with_reducible refine And.intro ?_ ?_)
    all_goals first | omega | skip
    rw [e, hh.2.1, hh.2.2.1]
    exact ⟨xup (xup (xup (xup (I 1) 5 (I 1 4 - 1)) 7 (tkk (I 2) (I 1 6) (nxt (I 2) (I 1 6) (I 1 9)))) 8 (tkv (I 2) (I 1 6) (nxt (I 2) (I 1 6) (I 1 9)))) 9 (nxt (I 2) (I 1 6) (I 1 9)), ⟨⟨hT, hK, ⟨(by omega : 0 ≤ I 1 4 - 1), (by omega : I 1 4 - 1 < I 1 4)⟩, e, rfl, rfl⟩, rfl, rfl, rfl, rfl, rfl⟩, rfl, rfl, rfl, rfl⟩
set_option maxRecDepth 8000 in
theorem sg_12_0_d {d : Nat} {I : XI} {L : XL} {D : GD} {post : XQ}   (h : (((0 : Int) = 0 ∨ (0 : Int) = 1) ∧ xR d 12 es_12 12 [xr (some 25), xr (some 1), xt 0] [xi (1 : Int), xr (some 29)] (xwr (xwr (xwr I 25 (0 : Int) (0 : Int)) 25 (3 : Int) (0 : Int)) 25 (4 : Int) (0 : Int)) L (gG D) 0 0 post)) : xR d 12 es_12 0 [xr (some 25), xr (some 1), xt 0] [] I L (gG D) 0 0 post := xW_R (fun k => Nat.beq k 12 || Nat.beq k 14 || Nat.beq k 17 || Nat.beq k 23 || Nat.beq k 28 || Nat.beq k 34 || Nat.beq k 46 || Nat.beq k 49) 12 _ _ _ _ _ _ _ _ _ _ _ _ h
set_option maxRecDepth 8000 in
theorem sg_12_13_d {d : Nat} {I : XI} {L : XL} {D : GD} {post : XQ}   (h : xR d 12 es_12 14 [xr (some 25), xr (some 1), xt 0] [xr (some 1)] I L (gG D) 0 0 post) : xR d 12 es_12 13 [xr (some 25), xr (some 1), xt 0] [] I L (gG D) 0 0 post := xW_R (fun k => Nat.beq k 12 || Nat.beq k 14 || Nat.beq k 17 || Nat.beq k 23 || Nat.beq k 28 || Nat.beq k 34 || Nat.beq k 46 || Nat.beq k 49) 1 _ _ _ _ _ _ _ _ _ _ _ _ h
set_option maxRecDepth 8000 in
theorem sg_12_15_d {d : Nat} {I : XI} {L : XL} {D : GD} {post : XQ}   (h : xR d 12 es_12 17 [xr (some 25), xr (some 1), xi (0 : Int)] [] I L (gG D) 0 0 post) : xR d 12 es_12 15 [xr (some 25), xr (some 1), xt 0] [] I L (gG D) 0 0 post := xW_R (fun k => Nat.beq k 12 || Nat.beq k 14 || Nat.beq k 17 || Nat.beq k 23 || Nat.beq k 28 || Nat.beq k 34 || Nat.beq k 46 || Nat.beq k 49) 2 _ _ _ _ _ _ _ _ _ _ _ _ h
set_option maxRecDepth 8000 in
theorem w_12_d {d : Nat} {I : XI} {L : XL} {D : GD} {post : XQ}    (hd : 13 ≤ d) (h : (TPO (I 2) (I 1 (6 : Int)) ∧ (∀ (e4033 : Int) (e4034 : Int → Int) (e4035 : Int → Int) (e4036 : Int → Int), (TXT (xup (xup (xup (xup (xup (xup (I 1) (4 : Int) e4033) (5 : Int) 0) (7 : Int) (tkk (I 2) (I 1 (6 : Int)) (sk (I 2) (I 1 (6 : Int)) 0))) (8 : Int) (tkv (I 2) (I 1 (6 : Int)) (sk (I 2) (I 1 (6 : Int)) 0))) (9 : Int) (sk (I 2) (I 1 (6 : Int)) 0)) (10 : Int) 0) (I 2) e4034 e4035 e4036 → xR d 12 es_12 17 [xr (some 25), xr (some 1), xi (0 : Int)] [] (xsc (xsc (xsc (xsc (xsc (xsc I 1 (xup (xup (xup (xup (xup (xup (I 1) (4 : Int) e4033) (5 : Int) 0) (7 : Int) (tkk (I 2) (I 1 (6 : Int)) (sk (I 2) (I 1 (6 : Int)) 0))) (8 : Int) (tkv (I 2) (I 1 (6 : Int)) (sk (I 2) (I 1 (6 : Int)) 0))) (9 : Int) (sk (I 2) (I 1 (6 : Int)) 0)) (10 : Int) 0)) 3 e4034) 4 e4035) 5 e4036) 25 (xup (xup (xup (I 25) (0 : Int) (0 : Int)) (3 : Int) (0 : Int)) (4 : Int) (0 : Int))) 29 (xfl (I 29) (1 : Int) 20)) L (gG D) 0 0 post)))) : xR d 12 es_12 0 [xr (some 25), xr (some 1), xt 0] [] I L (gG D) 0 0 post := sg_12_0_d  (⟨(by decide), (xR_cF rfl rfl rfl c_262_29 (by omega) (sg_12_13_d  (xR_cQ rfl rfl rfl (c_93 h.1) (by omega) (fun _ _ _ _ hx4037 => by obtain ⟨e4033, e4034, e4035, e4036, hp4038, rfl, rfl, rfl, rfl⟩ := hx4037; exact (sg_12_15_d  (xR_memc (h.2 e4033 e4034 e4035 e4036 hp4038) (funext fun i => (xpt rfl (fun h29_ => (xpt rfl (fun h25_ => (xpt rfl (fun h5_ => (xpt rfl (fun h4_ => (xpt rfl (fun h3_ => (xpt rfl (fun h1_ => (by simp only [xsc_ne _ _ h1_, xwr_ne _ _ _ h1_, xsc_ne _ _ h3_, xwr_ne _ _ _ h3_, xsc_ne _ _ h4_, xwr_ne _ _ _ h4_, xsc_ne _ _ h5_, xwr_ne _ _ _ h5_, xsc_ne _ _ h25_, xwr_ne _ _ _ h25_, xsc_ne _ _ h29_, xwr_ne _ _ _ h29_])))))))))))))) rfl))))))⟩)
set_option maxRecDepth 8000 in
theorem sg_12_17_d {d : Nat} {I : XI} {L : XL} {D : GD} {post : XQ}  {u2 : Int} (h : (((-2147483648 ≤ u2 ∧ u2 ≤ 2147483647) ∧ (-2147483648 ≤ (40 : Int) ∧ (40 : Int) ≤ 2147483647)) ∧ (((40 : Int) < u2 → (((0 : Int) = 0 ∨ (0 : Int) = 1) ∧ post (some (xi (0 : Int))) I L (gG D))) ∧ (u2 ≤ (40 : Int) → xR d 12 es_12 23 [xr (some 25), xr (some 1), xi u2] [xi u2, xr (some 1), xr (some 25)] I L (gG D) 0 0 post)))) : xR d 12 es_12 17 [xr (some 25), xr (some 1), xi u2] [] I L (gG D) 0 0 post := xW_R (fun k => Nat.beq k 12 || Nat.beq k 14 || Nat.beq k 17 || Nat.beq k 23 || Nat.beq k 28 || Nat.beq k 34 || Nat.beq k 46 || Nat.beq k 49) 6 _ _ _ _ _ _ _ _ _ _ _ _ h
set_option maxRecDepth 8000 in
theorem sg_12_24_d {d : Nat} {I : XI} {L : XL} {D : GD} {post : XQ}  {u2 : Int} {w0 : Int} (h : ((-2147483648 ≤ w0 ∧ w0 ≤ 2147483647) ∧ ((¬ w0 = 0 → xR d 12 es_12 28 [xr (some 25), xr (some 1), xi u2] [xr (some 1)] I L (gG D) 0 0 post) ∧ (w0 = 0 → (((0 : Int) = 0 ∨ (0 : Int) = 1) ∧ post (some (xi (0 : Int))) I L (gG D)))))) : xR d 12 es_12 24 [xr (some 25), xr (some 1), xi u2] [xi w0] I L (gG D) 0 0 post := xW_R (fun k => Nat.beq k 12 || Nat.beq k 14 || Nat.beq k 17 || Nat.beq k 23 || Nat.beq k 28 || Nat.beq k 34 || Nat.beq k 46 || Nat.beq k 49) 3 _ _ _ _ _ _ _ _ _ _ _ _ h
set_option maxRecDepth 8000 in
theorem sg_12_29_d {d : Nat} {I : XI} {L : XL} {D : GD} {post : XQ}  {u2 : Int} (h : (((-2147483648 ≤ (I 1 (7 : Int)) ∧ (I 1 (7 : Int)) ≤ 2147483647) ∧ (-2147483648 ≤ (-1 : Int) ∧ (-1 : Int) ≤ 2147483647)) ∧ ((¬ (I 1 (7 : Int)) = (-1 : Int) → (((-2147483648 ≤ (I 1 (7 : Int)) ∧ (I 1 (7 : Int)) ≤ 2147483647) ∧ (-2147483648 ≤ (59 : Int) ∧ (59 : Int) ≤ 2147483647)) ∧ (((I 1 (7 : Int)) = (59 : Int) → xR d 12 es_12 49 [xr (some 25), xr (some 1), xi u2] [xr (some 1)] I L (gG D) 0 0 post) ∧ (¬ (I 1 (7 : Int)) = (59 : Int) → xR d 12 es_12 46 [xr (some 25), xr (some 1), xi u2] [xi (0 : Int), xr (some 1)] I L (gG D) 0 0 post)))) ∧ ((I 1 (7 : Int)) = (-1 : Int) → xR d 12 es_12 34 [xr (some 25), xr (some 1), xi u2] [xr (some 25)] I L (gG D) 0 0 post)))) : xR d 12 es_12 29 [xr (some 25), xr (some 1), xi u2] [] I L (gG D) 0 0 post := xW_R (fun k => Nat.beq k 12 || Nat.beq k 14 || Nat.beq k 17 || Nat.beq k 23 || Nat.beq k 28 || Nat.beq k 34 || Nat.beq k 46 || Nat.beq k 49) 10 _ _ _ _ _ _ _ _ _ _ _ _ h
set_option maxRecDepth 8000 in
theorem sg_12_50_d {d : Nat} {I : XI} {L : XL} {D : GD} {post : XQ}  {u2 : Int} (h : xR d 12 es_12 17 [xr (some 25), xr (some 1), xi (u2 + (1 : Int))] [] I L (gG D) 0 0 post) : xR d 12 es_12 50 [xr (some 25), xr (some 1), xi u2] [] I L (gG D) 0 0 post := xW_R (fun k => Nat.beq k 12 || Nat.beq k 14 || Nat.beq k 17 || Nat.beq k 23 || Nat.beq k 28 || Nat.beq k 34 || Nat.beq k 46 || Nat.beq k 49) 2 _ _ _ _ _ _ _ _ _ _ _ _ h
set_option maxRecDepth 8000 in
theorem sg_12_47_d {d : Nat} {I : XI} {L : XL} {D : GD} {post : XQ}  {u2 : Int} {w0 : Int} (h : ((w0 = 0 ∨ w0 = 1) ∧ post (some (xi w0)) I L (gG D))) : xR d 12 es_12 47 [xr (some 25), xr (some 1), xi u2] [xi w0] I L (gG D) 0 0 post := xW_R (fun k => Nat.beq k 12 || Nat.beq k 14 || Nat.beq k 17 || Nat.beq k 23 || Nat.beq k 28 || Nat.beq k 34 || Nat.beq k 46 || Nat.beq k 49) 1 _ _ _ _ _ _ _ _ _ _ _ _ h
set_option maxRecDepth 8000 in
theorem sg_12_35_d {d : Nat} {I : XI} {L : XL} {D : GD} {post : XQ}  {u2 : Int} (h : (((1 : Int) = 0 ∨ (1 : Int) = 1) ∧ (((1 : Int) = 0 ∨ (1 : Int) = 1) ∧ post (some (xi (1 : Int))) (xwr I 25 (0 : Int) (1 : Int)) L (gG D)))) : xR d 12 es_12 35 [xr (some 25), xr (some 1), xi u2] [] I L (gG D) 0 0 post := xW_R (fun k => Nat.beq k 12 || Nat.beq k 14 || Nat.beq k 17 || Nat.beq k 23 || Nat.beq k 28 || Nat.beq k 34 || Nat.beq k 46 || Nat.beq k 49) 5 _ _ _ _ _ _ _ _ _ _ _ _ h
set_option maxRecDepth 8000 in
theorem b_12 {d : Nat} {I : XI} {L : XL} {D : GD} {post : XQ} {T1 Pc Pl Nm F K Z R Lk : Int → Int}  {cl : Int} (hd : 4 ≤ d) (h : (((-2147483648 ≤ cl ∧ cl ≤ 2147483647)) ∧ (((40 : Int) < cl → post (some (xi (0 : Int))) (xsc (xsc (xsc (xsc (xsc (xsc (xsc (xsc (xsc I 1 T1) 3 Pc) 4 Pl) 5 Nm) 25 F) 26 K) 27 Z) 28 R) 29 Lk) L (gG D)) ∧ (cl ≤ (40 : Int) → ((TXT T1 (I 2) Pc Pl Nm ∧ T1 (10 : Int) = 0 ∧ (0 ≤ cl ∧ cl ≤ 40) ∧ (0 ≤ F (3 : Int) ∧ F (3 : Int) ≤ 10) ∧ (0 ≤ F (4 : Int) ∧ F (4 : Int) ≤ 5)) ∧ (∀ (e4039 : Int) (e4040 : Int) (e4041 : Int) (e4042 : Int) (e4043 : Int → Int) (e4044 : Int → Int) (e4045 : Int → Int) (e4046 : Int → Int) (e4047 : Int → Int), (((fcw (I 2) (T1 (6 : Int)) (T1 (9 : Int)) cl (if cl = 0 then 0 else 1) (F (3 : Int)) (F (4 : Int))) = 0 → TXT (xup (xup (xup (xup (xup T1 (5 : Int) e4039) (7 : Int) e4040) (8 : Int) e4041) (9 : Int) e4042) (10 : Int) (fcw (I 2) (T1 (6 : Int)) (T1 (9 : Int)) cl (if cl = 0 then 0 else 1) (F (3 : Int)) (F (4 : Int)))) (I 2) Pc Pl Nm ∧ e4042 = (fcq (I 2) (T1 (6 : Int)) (T1 (9 : Int))) ∧ (∀ rd, RDI rd → rd 0 = (if cl = 0 then 0 else 1) → FRR F K Z R Lk rd → FRR e4043 e4044 e4045 e4046 e4047 (fcr (I 2) (T1 (6 : Int)) (T1 (9 : Int)) rd))) → ((((fcw (I 2) (T1 (6 : Int)) (T1 (9 : Int)) cl (if cl = 0 then 0 else 1) (F (3 : Int)) (F (4 : Int))) = 0 → (TXT (xup (xup (xup (xup (xup T1 (5 : Int) e4039) (7 : Int) e4040) (8 : Int) e4041) (9 : Int) e4042) (10 : Int) (fcw (I 2) (T1 (6 : Int)) (T1 (9 : Int)) cl (if cl = 0 then 0 else 1) (F (3 : Int)) (F (4 : Int)))) (I 2) Pc Pl Nm ∧ (∀ (e4048 : Int → Int), ((TXT e4048 (I 2) Pc Pl Nm ∧ e4048 9 = (nxt (I 2) (T1 (6 : Int)) e4042) ∧ e4048 7 = (tkk (I 2) (T1 (6 : Int)) (nxt (I 2) (T1 (6 : Int)) e4042)) ∧ e4048 8 = (tkv (I 2) (T1 (6 : Int)) (nxt (I 2) (T1 (6 : Int)) e4042)) ∧ e4048 10 = (fcw (I 2) (T1 (6 : Int)) (T1 (9 : Int)) cl (if cl = 0 then 0 else 1) (F (3 : Int)) (F (4 : Int))) ∧ e4048 6 = T1 (6 : Int)) → (((-2147483648 ≤ (e4048 (7 : Int)) ∧ (e4048 (7 : Int)) ≤ 2147483647)) ∧ ((¬ (e4048 (7 : Int)) = (-1 : Int) → ((((e4048 (7 : Int)) = (59 : Int) → (TXT e4048 (I 2) Pc Pl Nm ∧ (∀ (e4049 : Int → Int), ((TXT e4049 (I 2) Pc Pl Nm ∧ e4049 9 = (nxt (I 2) (e4048 (6 : Int)) (e4048 (9 : Int))) ∧ e4049 7 = (tkk (I 2) (e4048 (6 : Int)) (nxt (I 2) (e4048 (6 : Int)) (e4048 (9 : Int)))) ∧ e4049 8 = (tkv (I 2) (e4048 (6 : Int)) (nxt (I 2) (e4048 (6 : Int)) (e4048 (9 : Int)))) ∧ e4049 10 = e4048 (10 : Int) ∧ e4049 6 = e4048 (6 : Int)) → xR d 12 es_12 17 [xr (some 25), xr (some 1), xi (cl + (1 : Int))] [] (xsc (xsc (xsc (xsc (xsc (xsc (xsc (xsc (xsc I 1 e4049) 3 Pc) 4 Pl) 5 Nm) 25 e4043) 26 e4044) 27 e4045) 28 e4046) 29 e4047) L (gG D) 0 0 post)))) ∧ (¬ (e4048 (7 : Int)) = (59 : Int) → post (some (xi (xb (False)))) (xsc (xsc (xsc (xsc (xsc (xsc (xsc (xsc (xsc I 1 (xup e4048 (10 : Int) (1 + 8 * e4048 (9 : Int) + (0 : Int)))) 3 Pc) 4 Pl) 5 Nm) 25 e4043) 26 e4044) 27 e4045) 28 e4046) 29 e4047) L (gG D))))) ∧ ((e4048 (7 : Int)) = (-1 : Int) → (((0 ≤ e4043 (3 : Int) ∧ e4043 (3 : Int) ≤ 10) ∧ (0 ≤ e4043 (4 : Int) ∧ e4043 (4 : Int) ≤ 5) ∧ (∀ s, 0 ≤ s → s < e4043 (3 : Int) → 0 ≤ e4044 s ∧ e4044 s < 4)) ∧ (∀ (e4052 : Int → Int), ((∀ g s, 0 ≤ g → g < e4043 (4 : Int) → 0 ≤ s → s < e4043 (3 : Int) → e4052 (g * 10 + s) = e4045 s * e4047 (g * 4 + e4044 s)) → post (some (xi (1 : Int))) (xsc (xsc (xsc (xsc (xsc (xsc (xsc (xsc (xsc (xsc I 1 e4048) 3 Pc) 4 Pl) 5 Nm) 25 (xup e4043 (0 : Int) (1 : Int))) 26 e4044) 27 e4045) 28 e4046) 29 e4047) 30 e4052) L (gG D))))))))))) ∧ (¬ ((fcw (I 2) (T1 (6 : Int)) (T1 (9 : Int)) cl (if cl = 0 then 0 else 1) (F (3 : Int)) (F (4 : Int))) = 0) → post (some (xi (0 : Int))) (xsc (xsc (xsc (xsc (xsc (xsc (xsc (xsc (xsc I 1 (xup (xup (xup (xup (xup T1 (5 : Int) e4039) (7 : Int) e4040) (8 : Int) e4041) (9 : Int) e4042) (10 : Int) (fcw (I 2) (T1 (6 : Int)) (T1 (9 : Int)) cl (if cl = 0 then 0 else 1) (F (3 : Int)) (F (4 : Int))))) 3 Pc) 4 Pl) 5 Nm) 25 e4043) 26 e4044) 27 e4045) 28 e4046) 29 e4047) L (gG D))))))))))) : xR d 12 es_12 17 [xr (some 25), xr (some 1), xi cl] [] (xsc (xsc (xsc (xsc (xsc (xsc (xsc (xsc (xsc I 1 T1) 3 Pc) 4 Pl) 5 Nm) 25 F) 26 K) 27 Z) 28 R) 29 Lk) L (gG D) 0 0 post := sg_12_17_d  (⟨⟨h.1, (by decide)⟩, ⟨fun q4057 => ⟨(by decide), (h.2.1 q4057)⟩, fun q4058 => (xR_cQ rfl rfl rfl (c_13 (h.2.2 q4058).1) (by omega) (fun _ _ _ _ hx4059 => by obtain ⟨e4039, e4040, e4041, e4042, e4043, e4044, e4045, e4046, e4047, hp4060, rfl, rfl, rfl, rfl⟩ := hx4059; exact (sg_12_24_d  ⟨(xb_rg _), ⟨fun q4055 => (xR_cQ rfl rfl rfl (c_94_t (((h.2.2 q4058).2 e4039 e4040 e4041 e4042 e4043 e4044 e4045 e4046 e4047 hp4060).1 (xb_n0 q4055)).1) (by omega) (fun _ _ _ _ hx4061 => by obtain ⟨e4048, hp4062, rfl, rfl, rfl, rfl⟩ := hx4061; exact (sg_12_29_d  ⟨⟨((((h.2.2 q4058).2 e4039 e4040 e4041 e4042 e4043 e4044 e4045 e4046 e4047 hp4060).1 (xb_n0 q4055)).2 e4048 hp4062).1, (by decide)⟩, ⟨fun q4053 => ⟨⟨((((h.2.2 q4058).2 e4039 e4040 e4041 e4042 e4043 e4044 e4045 e4046 e4047 hp4060).1 (xb_n0 q4055)).2 e4048 hp4062).1, (by decide)⟩, ⟨fun q4050 => (xR_cQ rfl rfl rfl (c_94_t ((((((h.2.2 q4058).2 e4039 e4040 e4041 e4042 e4043 e4044 e4045 e4046 e4047 hp4060).1 (xb_n0 q4055)).2 e4048 hp4062).2.1 q4053).1 q4050).1) (by omega) (fun _ _ _ _ hx4063 => by obtain ⟨e4049, hp4064, rfl, rfl, rfl, rfl⟩ := hx4063; exact (sg_12_50_d  (xR_memc (((((((h.2.2 q4058).2 e4039 e4040 e4041 e4042 e4043 e4044 e4045 e4046 e4047 hp4060).1 (xb_n0 q4055)).2 e4048 hp4062).2.1 q4053).1 q4050).2 e4049 hp4064) (funext fun i => (xpt rfl (fun h29_ => (xpt rfl (fun h28_ => (xpt rfl (fun h27_ => (xpt rfl (fun h26_ => (xpt rfl (fun h25_ => (xpt rfl (fun h5_ => (xpt rfl (fun h4_ => (xpt rfl (fun h3_ => (xpt rfl (fun h1_ => (by simp only [xsc_ne _ _ h1_, xwr_ne _ _ _ h1_, xsc_ne _ _ h3_, xwr_ne _ _ _ h3_, xsc_ne _ _ h4_, xwr_ne _ _ _ h4_, xsc_ne _ _ h5_, xwr_ne _ _ _ h5_, xsc_ne _ _ h25_, xwr_ne _ _ _ h25_, xsc_ne _ _ h26_, xwr_ne _ _ _ h26_, xsc_ne _ _ h27_, xwr_ne _ _ _ h27_, xsc_ne _ _ h28_, xwr_ne _ _ _ h28_, xsc_ne _ _ h29_, xwr_ne _ _ _ h29_])))))))))))))))))))) rfl)))), fun q4051 => (xR_cF rfl rfl rfl c_95 (by omega) (sg_12_47_d  ⟨(xb_01 _), (xpost ((((((h.2.2 q4058).2 e4039 e4040 e4041 e4042 e4043 e4044 e4045 e4046 e4047 hp4060).1 (xb_n0 q4055)).2 e4048 hp4062).2.1 q4053).2 q4051) (funext fun i => (xpt rfl (fun h29_ => (xpt rfl (fun h28_ => (xpt rfl (fun h27_ => (xpt rfl (fun h26_ => (xpt rfl (fun h25_ => (xpt rfl (fun h5_ => (xpt rfl (fun h4_ => (xpt rfl (fun h3_ => (xpt rfl (fun h1_ => (by simp only [xsc_ne _ _ h1_, xwr_ne _ _ _ h1_, xsc_ne _ _ h3_, xwr_ne _ _ _ h3_, xsc_ne _ _ h4_, xwr_ne _ _ _ h4_, xsc_ne _ _ h5_, xwr_ne _ _ _ h5_, xsc_ne _ _ h25_, xwr_ne _ _ _ h25_, xsc_ne _ _ h26_, xwr_ne _ _ _ h26_, xsc_ne _ _ h27_, xwr_ne _ _ _ h27_, xsc_ne _ _ h28_, xwr_ne _ _ _ h28_, xsc_ne _ _ h29_, xwr_ne _ _ _ h29_])))))))))))))))))))) rfl)⟩))⟩⟩, fun q4054 => (xR_cQ rfl rfl rfl (c_19_d (((((h.2.2 q4058).2 e4039 e4040 e4041 e4042 e4043 e4044 e4045 e4046 e4047 hp4060).1 (xb_n0 q4055)).2 e4048 hp4062).2.2 q4054).1) (by omega) (fun _ _ _ _ hx4065 => by obtain ⟨e4052, hp4066, rfl, rfl, rfl, rfl⟩ := hx4065; exact (sg_12_35_d  ⟨(by decide), ⟨(by decide), (xpost ((((((h.2.2 q4058).2 e4039 e4040 e4041 e4042 e4043 e4044 e4045 e4046 e4047 hp4060).1 (xb_n0 q4055)).2 e4048 hp4062).2.2 q4054).2 e4052 hp4066) (funext fun i => (xpt rfl (fun h30_ => (xpt rfl (fun h29_ => (xpt rfl (fun h28_ => (xpt rfl (fun h27_ => (xpt rfl (fun h26_ => (xpt rfl (fun h25_ => (xpt rfl (fun h5_ => (xpt rfl (fun h4_ => (xpt rfl (fun h3_ => (xpt rfl (fun h1_ => (by simp only [xsc_ne _ _ h1_, xwr_ne _ _ _ h1_, xsc_ne _ _ h3_, xwr_ne _ _ _ h3_, xsc_ne _ _ h4_, xwr_ne _ _ _ h4_, xsc_ne _ _ h5_, xwr_ne _ _ _ h5_, xsc_ne _ _ h25_, xwr_ne _ _ _ h25_, xsc_ne _ _ h26_, xwr_ne _ _ _ h26_, xsc_ne _ _ h27_, xwr_ne _ _ _ h27_, xsc_ne _ _ h28_, xwr_ne _ _ _ h28_, xsc_ne _ _ h29_, xwr_ne _ _ _ h29_, xsc_ne _ _ h30_, xwr_ne _ _ _ h30_])))))))))))))))))))))) rfl)⟩⟩)))⟩⟩))), fun q4056 => ⟨(by decide), (xpost (((h.2.2 q4058).2 e4039 e4040 e4041 e4042 e4043 e4044 e4045 e4046 e4047 hp4060).2 (xb_0 q4056)) (funext fun i => (xpt rfl (fun h29_ => (xpt rfl (fun h28_ => (xpt rfl (fun h27_ => (xpt rfl (fun h26_ => (xpt rfl (fun h25_ => (xpt rfl (fun h5_ => (xpt rfl (fun h4_ => (xpt rfl (fun h3_ => (xpt rfl (fun h1_ => (by simp only [xsc_ne _ _ h1_, xwr_ne _ _ _ h1_, xsc_ne _ _ h3_, xwr_ne _ _ _ h3_, xsc_ne _ _ h4_, xwr_ne _ _ _ h4_, xsc_ne _ _ h5_, xwr_ne _ _ _ h5_, xsc_ne _ _ h25_, xwr_ne _ _ _ h25_, xsc_ne _ _ h26_, xwr_ne _ _ _ h26_, xsc_ne _ _ h27_, xwr_ne _ _ _ h27_, xsc_ne _ _ h28_, xwr_ne _ _ _ h28_, xsc_ne _ _ h29_, xwr_ne _ _ _ h29_])))))))))))))))))))) rfl)⟩⟩⟩)))⟩⟩)
theorem TXT.sk_ {T b Pc Pl Nm : Int → Int} (h : TXT T b Pc Pl Nm) : sk b (T 6) (T 9) = T 9 := by
  obtain ⟨h1, h2, h3, h4, h5, h6⟩ := h
  have hn := h1.1
  by_cases q : T 5 = 0
  · rw [← h4, q, h2.2.1]
    exact sk_sk hn.1
  · have := h2.2.2.2 (T 5 - 1) (by omega) (by omega)
    have e := this.2.2.2 (by omega)
    rw [show T 5 - 1 + 1 = T 5 by omega, h4] at e
    rw [e]
    unfold nxt
    refine sk_sk ?_
    by_cases q2 : Pl (T 5 - 1) < T 6
    · exact (tke_in q2).2
    · have e3 : tke b (T 6) (Pl (T 5 - 1)) = Pl (T 5 - 1) := if_pos q2
      rw [e3]; exact this.1.2
theorem fra_sk {b : Int → Int} {n : Int} {r : Nat} {ln p : Int} {rd : Int → Int} (h : p ≤ n) : fra b n r ln (sk b n p) rd = fra b n r ln p rd := by
  cases r with
  | zero => rfl
  | succ r => rw [fra_s, fra_s, sk_sk h]
theorem tkk_sg {b : Int → Int} {n q c : Int} (hT : TPO b n) (q0 : 0 ≤ q) (hc : c = 59 ∨ c = -1 ∨ c = 93 ∨ c = 91) : tkk b n q = c ↔ tc b n q = c := by
  have htr := tc_rg hT q
  have htw := tw_rg b n q
  have hd := tc_dg hT q0
  have hl := tc_lr hT q0
  unfold tkk
  by_cases pn : q < n
  · rw [if_neg (fun r => r pn)]
    have hv := tc_val hT q0 pn
    have hb := hT.2 q q0 pn
    by_cases d : dgt b n q = true
    · rw [if_pos d]; have := hd.mpr d; omega
    · rw [if_neg d]
      by_cases l : ltr b n q = true
      · rw [if_pos l]; have := hl.mpr l
        split <;> omega
      · rw [if_neg l]
        by_cases c6 : (tc b n q = 60 ∨ tc b n q = 62) ∧ tc b n (q + 1) = 61
        · rw [if_pos c6]; split <;> omega
        · rw [if_neg c6]
  · rw [if_pos pn, tc_end pn]
theorem nxt_sg {b : Int → Int} {n q c : Int} (hT : TPO b n) (q0 : 0 ≤ q) (hc : c = 59 ∨ c = 93 ∨ c = 91) (h : tc b n q = c) : nxt b n q = sk b n (q + 1) := by
  have pn : q < n := Classical.byContradiction fun r => by rw [tc_end r] at h; omega
  have hd := tc_dg hT q0
  have hl := tc_lr hT q0
  unfold nxt tke
  rw [if_neg (fun r => r pn), if_neg (fun r => by have := hd.mpr r; omega), if_neg (fun r => by have := hl.mpr r; omega), if_neg (fun r => by omega)]
theorem FRR_t {F K Z R L rd : Int → Int} {v : Int} (h : FRR F K Z R L rd) : FRR (xup F 0 v) K Z R L rd := h
theorem fcr_0 {b : Int → Int} {n q ln : Int} {rd : Int → Int} (hR : RDI rd) (h : fcw b n q ln (rd 0) (rd 3) (rd 4) = 0) (q0 : 0 ≤ q) (qn : q ≤ n) : fcr b n q rd 0 = 1 := by
  obtain ⟨_, _, hk⟩ := fcw_0 h q0
  have hr := hR.1
  have h1 := fq1_in (b := b) qn
  have h2 := fqn_in (b := b) h1.2
  unfold fwk at hk
  unfold fcr
  by_cases c12 : tw b n q = 12
  · rw [if_pos c12]
    unfold frc lk1
    rw [if_neg (by omega), xup_same]
  · rw [if_neg c12] at hk ⊢
    have hr0 : ¬ rd 0 = 0 := fun e => by rw [if_pos e] at hk; omega
    rw [if_neg hr0] at hk
    by_cases c1 : tw b n q = 1
    · rw [if_pos c1]
      unfold frs
      rw [xup_ne _ _ (by omega), xup_ne _ _ (by omega), xup_ne _ _ (by omega)]; omega
    · rw [if_neg c1] at hk ⊢
      by_cases c0 : tw b n q = 0
      · rw [if_pos c0]
        unfold frg
        rw [xup_ne _ _ (by omega), xup_ne _ _ (by omega)]; omega
      · rw [if_neg c0] at hk ⊢
        obtain ⟨a1, a2, a3⟩ := fwl_0 hk
        have g1 := (nf_dg a1 (by omega)).2
        have g2 := (nf_dg a2 (by omega)).2
        unfold frl
        rw [xup_ne _ _ (by omega)]; omega
theorem lp_12 {I : XI} {L : XL} {D : GD} {d : Nat} {n : Int} {T : Int × (Int → Int)} (hd : 13 ≤ d) (hT : TPO (I 2) n) : ∀ (r : Nat) (cl : Int) (T1 Pc Pl Nm F K Z R Lk rd : Int → Int), (0 ≤ cl ∧ cl ≤ 40) → (r : Int) = 41 - cl → TXT T1 (I 2) Pc Pl Nm → T1 10 = 0 → T1 6 = n → FRR F K Z R Lk rd → RDI rd → rd 0 = (if cl = 0 then 0 else 1) → T = fra (I 2) n r cl (T1 9) rd → xR d 12 es_12 17 [xr (some 25), xr (some 1), xi cl] [] (xsc (xsc (xsc (xsc (xsc (xsc (xsc (xsc (xsc I 1 T1) 3 Pc) 4 Pl) 5 Nm) 25 F) 26 K) 27 Z) 28 R) 29 Lk) L (gG D) 0 0 (fun r2 I2 L2 G2 => ∃ (T9 : Int → Int) (Pc9 : Int → Int) (Pl9 : Int → Int) (Nm9 : Int → Int) (F9 : Int → Int) (K9 : Int → Int) (Z9 : Int → Int) (R9 : Int → Int) (L9 : Int → Int) (W9 : Int → Int), (T9 10 = T.1 ∧ (T.1 = 0 → F9 0 = 1 ∧ FRR F9 K9 Z9 R9 L9 T.2 ∧ RDI T.2 ∧ (∀ g s, 0 ≤ g → g < F9 4 → 0 ≤ s → s < F9 3 → W9 (g * 10 + s) = Z9 s * L9 (g * 4 + K9 s)))) ∧ r2 = some (xi (xb (T.1 = 0))) ∧ I2 = (xsc (xsc (xsc (xsc (xsc (xsc (xsc (xsc (xsc (xsc I 1 T9) 3 Pc9) 4 Pl9) 5 Nm9) 25 F9) 26 K9) 27 Z9) 28 R9) 29 L9) 30 W9) ∧ L2 = L ∧ G2 = gG D) := by
  intro r
  have hT1 := hT.1
  induction r with
  | zero => intro cl T1 Pc Pl Nm F K Z R Lk rd h1 h2; omega
  | succ r ih =>
    intro cl T1 Pc Pl Nm F K Z R Lk rd h1 h2 hX h10 h6 hF hR hr0 hE
    have hn : 0 ≤ T1 9 ∧ T1 9 ≤ T1 6 := (hX.nx).1
    have hsk : sk (I 2) (T1 6) (T1 9) = T1 9 := hX.sk_
    have hr3 := hR.1.2
    rw [h6] at hn hsk
    rw [fra_s, hsk, hr0, ← hF.1, ← hF.2.1] at hE
    have hF3 := hF.1
    have hF4 := hF.2.1
    have hwr := fcw_rg (b := I 2) (n := n) (q := T1 9) (ln := cl) (r0 := if cl = 0 then 0 else 1) (N := F 3) (G := F 4) hn.1 hn.2 hT1.2
    refine b_12 (by omega) ?_
    simp only [h6]
    refine ⟨by omega, fun h => absurd h (by omega), fun _ => ⟨⟨hX, h10, h1, by omega, by omega⟩, fun e1 e2 e3 e4 f1 f2 f3 f4 f5 hp => ⟨fun w0 => ?_, fun w0 => ?_⟩⟩⟩
    · obtain ⟨x1, x2, x3⟩ := hp w0
      rw [if_neg (fun r => r w0)] at hE
      have hw : fcw (I 2) n (T1 9) cl (rd 0) (rd 3) (rd 4) = 0 := by rw [hr0, ← hF3, ← hF4]; exact w0
      have hR2 := RDI_fcr hR hn.1 hn.2 hw
      have hF2 := x3 rd hR hr0 hF
      have hq := fcq_nxt w0 hn.1 hn.2
      have hpi := fcp_in (b := I 2) hn.2
      have hs2 := sk_in (b := I 2) hpi.2
      obtain ⟨q2, eq2⟩ : ∃ q2, sk (I 2) n (fcp (I 2) n (T1 9)) = q2 := ⟨_, rfl⟩
      rw [eq2] at hq hs2
      have h40 := (fcw_0 w0 hn.1).2.1
      unfold frt at hE
      rw [eq2] at hE
      have eN : nxt (I 2) n e4 = q2 := by rw [x2]; exact hq
      have s59 := tkk_sg (c := 59) hT (q := q2) (by omega) (Or.inl rfl)
      have s1 := tkk_sg (c := -1) hT (q := q2) (by omega) (Or.inr (Or.inl rfl))
      have hkr : -2 ≤ tkk (I 2) n q2 ∧ tkk (I 2) n q2 ≤ 300 := by
        have htr := tc_rg hT q2
        have htw := tw_rg (I 2) n q2
        unfold tkk
        (repeat' split) <;> omega
      have hr2 : fcr (I 2) n (T1 9) rd 0 = 1 := fcr_0 hR hw hn.1 hn.2
      have e6 : (xup (xup (xup (xup (xup T1 5 e1) 7 e2) 8 e3) 9 e4) 10 (fcw (I 2) n (T1 9) cl (if cl = 0 then 0 else 1) (F 3) (F 4))) 6 = n := h6
      refine ⟨x1, fun T2 hX2 => ?_⟩
      obtain ⟨y1, y2, y3, y4, y5, y6⟩ := hX2
      rw [eN] at y2 y3 y4
      rw [y3]
      have y10 : T2 10 = 0 := by rw [y5]; exact w0
      refine ⟨by omega, fun c1 => ⟨fun c59 => ⟨y1, fun T3 hX3 => ?_⟩, fun c59 => ?_⟩, fun c1 => ?_⟩
      · obtain ⟨z1, z2, z3, z4, z5, z6⟩ := hX3
        rw [if_pos (s59.mp c59)] at hE
        have e5 := nxt_sg hT (by omega) (Or.inl rfl) (s59.mp c59)
        have hlt := tc_lt (s59.mp c59)
        have z9 : T3 9 = sk (I 2) n (q2 + 1) := by rw [z2, y6, y2]; exact e5
        refine ih (cl + 1) T3 _ _ _ _ _ _ _ _ (fcr (I 2) n (T1 9) rd) ⟨by omega, by omega⟩ (by omega) z1 (by rw [z5]; exact y10) (by rw [z6]; exact y6) hF2 hR2 (by rw [hr2, if_neg (by omega)]) ?_
        rw [z9, fra_sk (by omega)]; exact hE
      · rw [if_neg (fun r => c59 (s59.mpr r)), if_neg (fun r => c1 (s1.mpr r))] at hE
        rw [hE]
        exact ⟨xup T2 10 (1 + 8 * T2 9 + 0), Pc, Pl, Nm, f1, f2, f3, f4, f5, I 30, ⟨by rw [y2]; exact xup_same _ _ _, fun z => absurd z (by show ¬ (1 + 8 * q2 + 0 = 0); omega)⟩, by first | trivial | rw [xb_f (fun r : False => r), xb_f (show ¬ (1 + 8 * q2 + 0 = 0) by omega)], by first | rfl | (funext i; by_cases h1 : i = 1; (subst h1; first | rfl | exact (xcp_zero _ _ _ _).symm | exact (xup_self _ _).symm | exact (xup_self2 _ _ _).symm | exact (xup_self3 _ _ _ _).symm | exact xup_self _ _); by_cases h3 : i = 3; (subst h3; first | rfl | exact (xcp_zero _ _ _ _).symm | exact (xup_self _ _).symm | exact (xup_self2 _ _ _).symm | exact (xup_self3 _ _ _ _).symm | exact xup_self _ _); by_cases h4 : i = 4; (subst h4; first | rfl | exact (xcp_zero _ _ _ _).symm | exact (xup_self _ _).symm | exact (xup_self2 _ _ _).symm | exact (xup_self3 _ _ _ _).symm | exact xup_self _ _); by_cases h5 : i = 5; (subst h5; first | rfl | exact (xcp_zero _ _ _ _).symm | exact (xup_self _ _).symm | exact (xup_self2 _ _ _).symm | exact (xup_self3 _ _ _ _).symm | exact xup_self _ _); by_cases h25 : i = 25; (subst h25; first | rfl | exact (xcp_zero _ _ _ _).symm | exact (xup_self _ _).symm | exact (xup_self2 _ _ _).symm | exact (xup_self3 _ _ _ _).symm | exact xup_self _ _); by_cases h26 : i = 26; (subst h26; first | rfl | exact (xcp_zero _ _ _ _).symm | exact (xup_self _ _).symm | exact (xup_self2 _ _ _).symm | exact (xup_self3 _ _ _ _).symm | exact xup_self _ _); by_cases h27 : i = 27; (subst h27; first | rfl | exact (xcp_zero _ _ _ _).symm | exact (xup_self _ _).symm | exact (xup_self2 _ _ _).symm | exact (xup_self3 _ _ _ _).symm | exact xup_self _ _); by_cases h28 : i = 28; (subst h28; first | rfl | exact (xcp_zero _ _ _ _).symm | exact (xup_self _ _).symm | exact (xup_self2 _ _ _).symm | exact (xup_self3 _ _ _ _).symm | exact xup_self _ _); by_cases h29 : i = 29; (subst h29; first | rfl | exact (xcp_zero _ _ _ _).symm | exact (xup_self _ _).symm | exact (xup_self2 _ _ _).symm | exact (xup_self3 _ _ _ _).symm | exact xup_self _ _); by_cases h30 : i = 30; (subst h30; first | rfl | exact (xcp_zero _ _ _ _).symm | exact (xup_self _ _).symm | exact (xup_self2 _ _ _).symm | exact (xup_self3 _ _ _ _).symm | exact xup_self _ _); first | rfl | simp only [xsc_ne _ _ h1, xsc_ne _ _ h3, xsc_ne _ _ h4, xsc_ne _ _ h5, xsc_ne _ _ h25, xsc_ne _ _ h26, xsc_ne _ _ h27, xsc_ne _ _ h28, xsc_ne _ _ h29, xsc_ne _ _ h30]), (by first | rfl | trivial), (by first | rfl | trivial)⟩
      · rw [if_neg (fun r => by have := s1.mp c1; omega), if_pos (s1.mp c1)] at hE
        have hk2 := hR2.2.2.2.1
        have hf3 := hF2.1
        have hf4 := hF2.2.1
        have hf5 := hF2.2.2.2.2.1
        have hr23 := hR2.1.2
        refine ⟨⟨by omega, by omega, fun s s0 s1 => ?_⟩, fun W9 hW => ?_⟩
        · rw [(hf5 s s0 (by omega)).1]
          have := hk2 s s0 (by omega)
          omega
        · rw [hE]
          exact ⟨T2, Pc, Pl, Nm, xup f1 0 1, f2, f3, f4, f5, W9, ⟨y10, fun _ => ⟨xup_same _ _ _, FRR_t hF2, hR2, hW⟩⟩, by first | trivial | rw [xb_t rfl], by first | rfl | (funext i; by_cases h1 : i = 1; (subst h1; first | rfl | exact (xcp_zero _ _ _ _).symm | exact (xup_self _ _).symm | exact (xup_self2 _ _ _).symm | exact (xup_self3 _ _ _ _).symm | exact xup_self _ _); by_cases h3 : i = 3; (subst h3; first | rfl | exact (xcp_zero _ _ _ _).symm | exact (xup_self _ _).symm | exact (xup_self2 _ _ _).symm | exact (xup_self3 _ _ _ _).symm | exact xup_self _ _); by_cases h4 : i = 4; (subst h4; first | rfl | exact (xcp_zero _ _ _ _).symm | exact (xup_self _ _).symm | exact (xup_self2 _ _ _).symm | exact (xup_self3 _ _ _ _).symm | exact xup_self _ _); by_cases h5 : i = 5; (subst h5; first | rfl | exact (xcp_zero _ _ _ _).symm | exact (xup_self _ _).symm | exact (xup_self2 _ _ _).symm | exact (xup_self3 _ _ _ _).symm | exact xup_self _ _); by_cases h25 : i = 25; (subst h25; first | rfl | exact (xcp_zero _ _ _ _).symm | exact (xup_self _ _).symm | exact (xup_self2 _ _ _).symm | exact (xup_self3 _ _ _ _).symm | exact xup_self _ _); by_cases h26 : i = 26; (subst h26; first | rfl | exact (xcp_zero _ _ _ _).symm | exact (xup_self _ _).symm | exact (xup_self2 _ _ _).symm | exact (xup_self3 _ _ _ _).symm | exact xup_self _ _); by_cases h27 : i = 27; (subst h27; first | rfl | exact (xcp_zero _ _ _ _).symm | exact (xup_self _ _).symm | exact (xup_self2 _ _ _).symm | exact (xup_self3 _ _ _ _).symm | exact xup_self _ _); by_cases h28 : i = 28; (subst h28; first | rfl | exact (xcp_zero _ _ _ _).symm | exact (xup_self _ _).symm | exact (xup_self2 _ _ _).symm | exact (xup_self3 _ _ _ _).symm | exact xup_self _ _); by_cases h29 : i = 29; (subst h29; first | rfl | exact (xcp_zero _ _ _ _).symm | exact (xup_self _ _).symm | exact (xup_self2 _ _ _).symm | exact (xup_self3 _ _ _ _).symm | exact xup_self _ _); by_cases h30 : i = 30; (subst h30; first | rfl | exact (xcp_zero _ _ _ _).symm | exact (xup_self _ _).symm | exact (xup_self2 _ _ _).symm | exact (xup_self3 _ _ _ _).symm | exact xup_self _ _); first | rfl | simp only [xsc_ne _ _ h1, xsc_ne _ _ h3, xsc_ne _ _ h4, xsc_ne _ _ h5, xsc_ne _ _ h25, xsc_ne _ _ h26, xsc_ne _ _ h27, xsc_ne _ _ h28, xsc_ne _ _ h29, xsc_ne _ _ h30]), (by first | rfl | trivial), (by first | rfl | trivial)⟩
    · rw [if_pos w0] at hE
      rw [hE]
      exact ⟨_, Pc, Pl, Nm, f1, f2, f3, f4, f5, I 30, ⟨xup_same _ _ _, fun z => absurd z w0⟩, by first | trivial | rw [xb_f w0], by first | rfl | (funext i; by_cases h1 : i = 1; (subst h1; first | rfl | exact (xcp_zero _ _ _ _).symm | exact (xup_self _ _).symm | exact (xup_self2 _ _ _).symm | exact (xup_self3 _ _ _ _).symm | exact xup_self _ _); by_cases h3 : i = 3; (subst h3; first | rfl | exact (xcp_zero _ _ _ _).symm | exact (xup_self _ _).symm | exact (xup_self2 _ _ _).symm | exact (xup_self3 _ _ _ _).symm | exact xup_self _ _); by_cases h4 : i = 4; (subst h4; first | rfl | exact (xcp_zero _ _ _ _).symm | exact (xup_self _ _).symm | exact (xup_self2 _ _ _).symm | exact (xup_self3 _ _ _ _).symm | exact xup_self _ _); by_cases h5 : i = 5; (subst h5; first | rfl | exact (xcp_zero _ _ _ _).symm | exact (xup_self _ _).symm | exact (xup_self2 _ _ _).symm | exact (xup_self3 _ _ _ _).symm | exact xup_self _ _); by_cases h25 : i = 25; (subst h25; first | rfl | exact (xcp_zero _ _ _ _).symm | exact (xup_self _ _).symm | exact (xup_self2 _ _ _).symm | exact (xup_self3 _ _ _ _).symm | exact xup_self _ _); by_cases h26 : i = 26; (subst h26; first | rfl | exact (xcp_zero _ _ _ _).symm | exact (xup_self _ _).symm | exact (xup_self2 _ _ _).symm | exact (xup_self3 _ _ _ _).symm | exact xup_self _ _); by_cases h27 : i = 27; (subst h27; first | rfl | exact (xcp_zero _ _ _ _).symm | exact (xup_self _ _).symm | exact (xup_self2 _ _ _).symm | exact (xup_self3 _ _ _ _).symm | exact xup_self _ _); by_cases h28 : i = 28; (subst h28; first | rfl | exact (xcp_zero _ _ _ _).symm | exact (xup_self _ _).symm | exact (xup_self2 _ _ _).symm | exact (xup_self3 _ _ _ _).symm | exact xup_self _ _); by_cases h29 : i = 29; (subst h29; first | rfl | exact (xcp_zero _ _ _ _).symm | exact (xup_self _ _).symm | exact (xup_self2 _ _ _).symm | exact (xup_self3 _ _ _ _).symm | exact xup_self _ _); by_cases h30 : i = 30; (subst h30; first | rfl | exact (xcp_zero _ _ _ _).symm | exact (xup_self _ _).symm | exact (xup_self2 _ _ _).symm | exact (xup_self3 _ _ _ _).symm | exact xup_self _ _); first | rfl | simp only [xsc_ne _ _ h1, xsc_ne _ _ h3, xsc_ne _ _ h4, xsc_ne _ _ h5, xsc_ne _ _ h25, xsc_ne _ _ h26, xsc_ne _ _ h27, xsc_ne _ _ h28, xsc_ne _ _ h29, xsc_ne _ _ h30]), (by first | rfl | trivial), (by first | rfl | trivial)⟩
theorem c_12 {I : XI} {L : XL} {D : GD}    (h : TPO (I 2) (I 1 (6 : Int))) : xM 13 12 [xr (some 25), xr (some 1)] I L (gG D) (0, 0) (fun r2 I2 L2 G2 => ∃ (T9 : Int → Int) (Pc9 : Int → Int) (Pl9 : Int → Int) (Nm9 : Int → Int) (F9 : Int → Int) (K9 : Int → Int) (Z9 : Int → Int) (R9 : Int → Int) (L9 : Int → Int) (W9 : Int → Int), (T9 10 = (fra (I 2) (I 1 (6 : Int)) 41 0 0 (fun _ => 0)).1 ∧ ((fra (I 2) (I 1 (6 : Int)) 41 0 0 (fun _ => 0)).1 = 0 → F9 0 = 1 ∧ FRR F9 K9 Z9 R9 L9 (fra (I 2) (I 1 (6 : Int)) 41 0 0 (fun _ => 0)).2 ∧ RDI (fra (I 2) (I 1 (6 : Int)) 41 0 0 (fun _ => 0)).2 ∧ (∀ g s, 0 ≤ g → g < F9 4 → 0 ≤ s → s < F9 3 → W9 (g * 10 + s) = Z9 s * L9 (g * 4 + K9 s)))) ∧ r2 = (some (xi (xb ((fra (I 2) (I 1 (6 : Int)) 41 0 0 (fun _ => 0)).1 = 0)))) ∧ I2 = (xsc (xsc (xsc (xsc (xsc (xsc (xsc (xsc (xsc (xsc I 1 T9) 3 Pc9) 4 Pl9) 5 Nm9) 25 F9) 26 K9) 27 Z9) 28 R9) 29 L9) 30 W9) ∧ L2 = L ∧ G2 = (gG D)) := by
  intro d hd
  have hT := h
  have hT1 := hT.1
  refine w_12_d (by omega) ?_
  refine ⟨hT, fun e1 e2 e3 e4 hX => ?_⟩
  have hE : fra (I 2) (I 1 6) 41 0 0 (fun _ => 0) = fra (I 2) (I 1 6) 41 0 (sk (I 2) (I 1 6) 0) (fun _ => 0) := (fra_sk (by omega)).symm
  have hR : RDI (fun _ => 0) := ⟨⟨Or.inl rfl, ⟨by decide, by decide⟩, ⟨by decide, by decide⟩⟩, ⟨by decide, by decide⟩, ⟨by decide, by decide⟩, fun s _ _ => ⟨(by decide : (0 : Int) ≤ 0), (by decide : (0 : Int) ≤ 3)⟩, fun s _ _ => ⟨(by decide : (0 : Int) ≤ 0), (by decide : (0 : Int) ≤ 9)⟩, fun s _ _ => ⟨(by decide : (0 : Int) ≤ 0), (by decide : (0 : Int) ≤ 99)⟩, fun s _ _ => ⟨(by decide : (0 : Int) ≤ 0), (by decide : (0 : Int) ≤ 9)⟩⟩
  have hF : FRR (xup (xup (xup (I 25) 0 0) 3 0) 4 0) (I 26) (I 27) (I 28) (xfl (I 29) 1 20) (fun _ => 0) := ⟨rfl, rfl, fun _ j j0 j1 => if_pos ⟨j0, j1⟩, fun q => absurd rfl q, fun s s0 s1 => absurd (show s < 0 from s1) (by omega), fun g g0 g1 => absurd (show g < 0 from g1) (by omega)⟩
  have k0 := lp_12 (I := I) (L := L) (D := D) (d := d) (n := I 1 6) (by omega) hT 41 0 _ e2 e3 e4 _ _ _ _ _ _ ⟨by omega, by omega⟩ (by decide) hX rfl rfl hF hR rfl hE
  exact xR_memc k0 (by (funext i; by_cases h1 : i = 1; (subst h1; first | rfl | exact (xcp_zero _ _ _ _).symm | exact (xup_self _ _).symm | exact (xup_self2 _ _ _).symm | exact (xup_self3 _ _ _ _).symm | exact xup_self _ _); by_cases h3 : i = 3; (subst h3; first | rfl | exact (xcp_zero _ _ _ _).symm | exact (xup_self _ _).symm | exact (xup_self2 _ _ _).symm | exact (xup_self3 _ _ _ _).symm | exact xup_self _ _); by_cases h4 : i = 4; (subst h4; first | rfl | exact (xcp_zero _ _ _ _).symm | exact (xup_self _ _).symm | exact (xup_self2 _ _ _).symm | exact (xup_self3 _ _ _ _).symm | exact xup_self _ _); by_cases h5 : i = 5; (subst h5; first | rfl | exact (xcp_zero _ _ _ _).symm | exact (xup_self _ _).symm | exact (xup_self2 _ _ _).symm | exact (xup_self3 _ _ _ _).symm | exact xup_self _ _); by_cases h25 : i = 25; (subst h25; first | rfl | exact (xcp_zero _ _ _ _).symm | exact (xup_self _ _).symm | exact (xup_self2 _ _ _).symm | exact (xup_self3 _ _ _ _).symm | exact xup_self _ _); by_cases h26 : i = 26; (subst h26; first | rfl | exact (xcp_zero _ _ _ _).symm | exact (xup_self _ _).symm | exact (xup_self2 _ _ _).symm | exact (xup_self3 _ _ _ _).symm | exact xup_self _ _); by_cases h27 : i = 27; (subst h27; first | rfl | exact (xcp_zero _ _ _ _).symm | exact (xup_self _ _).symm | exact (xup_self2 _ _ _).symm | exact (xup_self3 _ _ _ _).symm | exact xup_self _ _); by_cases h28 : i = 28; (subst h28; first | rfl | exact (xcp_zero _ _ _ _).symm | exact (xup_self _ _).symm | exact (xup_self2 _ _ _).symm | exact (xup_self3 _ _ _ _).symm | exact xup_self _ _); by_cases h29 : i = 29; (subst h29; first | rfl | exact (xcp_zero _ _ _ _).symm | exact (xup_self _ _).symm | exact (xup_self2 _ _ _).symm | exact (xup_self3 _ _ _ _).symm | exact xup_self _ _); first | rfl | simp only [xsc_ne _ _ h1, xsc_ne _ _ h3, xsc_ne _ _ h4, xsc_ne _ _ h5, xsc_ne _ _ h25, xsc_ne _ _ h26, xsc_ne _ _ h27, xsc_ne _ _ h28, xsc_ne _ _ h29])) rfl
