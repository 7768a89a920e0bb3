set_option maxRecDepth 8000 in
theorem sg_102_0 {d : Nat} {I : XI} {L : XL} {D : GD} {post : XQ}  {u1 : Int} (h : ((-2147483648 ≤ u1 ∧ u1 ≤ 2147483647) ∧ ((u1 < 0 → post (some (xi (-1 : Int))) I L (gG D)) ∧ (0 ≤ u1 → (((-2147483648 ≤ u1 ∧ u1 ≤ 2147483647) ∧ (-2147483648 ≤ (I 1 (6 : Int)) ∧ (I 1 (6 : Int)) ≤ 2147483647)) ∧ (((I 1 (6 : Int)) ≤ u1 → post (some (xi (-1 : Int))) I L (gG D)) ∧ (u1 < (I 1 (6 : Int)) → (((-2147483648 ≤ u1 ∧ u1 ≤ 2147483647) ∧ (-2147483648 ≤ (400 : Int) ∧ (400 : Int) ≤ 2147483647)) ∧ (((400 : Int) ≤ u1 → post (some (xi (-1 : Int))) I L (gG D)) ∧ (u1 < (400 : Int) → ((0 ≤ u1 ∧ u1 < (400 : Int)) ∧ post (some (xi (xand (I 2 u1) (255 : Int)))) I L (gG D)))))))))))) : xR d 102 es_102 0 [xr (some 1), xi u1] [] I L (gG D) 0 0 post := xW_R (fun k => false) 17 _ _ _ _ _ _ _ _ _ _ _ _ h
set_option maxRecDepth 8000 in
theorem w_102 {d : Nat} {I : XI} {L : XL} {D : GD} {post : XQ}   {ix : Int} (hd : 0 ≤ d) (h : (((-2147483648 ≤ ix ∧ ix ≤ 2147483647)) ∧ ((ix < 0 → post (some (xi (-1 : Int))) I L (gG D)) ∧ (0 ≤ ix → (((-2147483648 ≤ (I 1 (6 : Int)) ∧ (I 1 (6 : Int)) ≤ 2147483647)) ∧ (((I 1 (6 : Int)) ≤ ix → post (some (xi (-1 : Int))) I L (gG D)) ∧ (ix < (I 1 (6 : Int)) → ((((400 : Int) ≤ ix → post (some (xi (-1 : Int))) I L (gG D)) ∧ (ix < (400 : Int) → (((0 ≤ ix ∧ ix < (400 : Int))) ∧ post (some (xi (xand (I 2 ix) (255 : Int)))) I L (gG D)))))))))))) : xR d 102 es_102 0 [xr (some 1), xi ix] [] I L (gG D) 0 0 post := sg_102_0  (⟨h.1, ⟨fun q3504 => (h.2.1 q3504), fun q3505 => ⟨⟨h.1, (h.2.2 q3505).1⟩, ⟨fun q3502 => ((h.2.2 q3505).2.1 q3502), fun q3503 => ⟨⟨h.1, (by decide)⟩, ⟨fun q3500 => (((h.2.2 q3505).2.2 q3503).1 q3500), fun q3501 => ⟨(((h.2.2 q3505).2.2 q3503).2 q3501).1, (((h.2.2 q3505).2.2 q3503).2 q3501).2⟩⟩⟩⟩⟩⟩⟩)
theorem c_102 {I : XI} {L : XL} {D : GD}   {ix : Int} (h : (TPO (I 2) (I 1 (6 : Int)) ∧ (0 ≤ ix ∧ ix ≤ 2000))) : xM 0 102 [xr (some 1), xi ix] I L (gG D) (0, 0) (xD (some (xi (tc (I 2) (I 1 (6 : Int)) ix))) I L (gG D)) := by
  intro d hd
  obtain ⟨hT, h1⟩ := h
  have hT1 := hT.1
  have eT : tc (I 2) (I 1 6) ix = if ix < I 1 6 then xand (I 2 ix) 255 else -1 := rfl
  rw [eT]
  refine w_102 (by omega) ?_
  repeat' first | (with_reducible intro _) | (with_reducible refine And.intro ?_ ?_)
  all_goals first | omega | skip
  all_goals first
    | (rw [if_pos (by omega)]; exact xD_in)
    | (rw [if_neg (by omega)]; exact xD_in)
set_option maxRecDepth 8000 in
theorem sg_103_0 {d : Nat} {I : XI} {L : XL} {D : GD} {post : XQ}  {u0 : Int} (h : (((-2147483648 ≤ u0 ∧ u0 ≤ 2147483647) ∧ (-2147483648 ≤ (48 : Int) ∧ (48 : Int) ≤ 2147483647)) ∧ ((u0 < (48 : Int) → (((0 : Int) = 0 ∨ (0 : Int) = 1) ∧ post (some (xi (0 : Int))) I L (gG D))) ∧ ((48 : Int) ≤ u0 → (((-2147483648 ≤ u0 ∧ u0 ≤ 2147483647) ∧ (-2147483648 ≤ (57 : Int) ∧ (57 : Int) ≤ 2147483647)) ∧ (((57 : Int) < u0 → (((0 : Int) = 0 ∨ (0 : Int) = 1) ∧ post (some (xi (0 : Int))) I L (gG D))) ∧ (u0 ≤ (57 : Int) → (((1 : Int) = 0 ∨ (1 : Int) = 1) ∧ post (some (xi (1 : Int))) I L (gG D))))))))) : xR d 103 es_103 0 [xi u0] [] I L (gG D) 0 0 post := xW_R (fun k => false) 9 _ _ _ _ _ _ _ _ _ _ _ _ h
set_option maxRecDepth 8000 in
theorem w_103 {d : Nat} {I : XI} {L : XL} {D : GD} {post : XQ}   {sn : Int} (hd : 0 ≤ d) (h : (((-2147483648 ≤ sn ∧ sn ≤ 2147483647)) ∧ ((sn < (48 : Int) → post (some (xi (0 : Int))) I L (gG D)) ∧ ((48 : Int) ≤ sn → ((((57 : Int) < sn → post (some (xi (0 : Int))) I L (gG D)) ∧ (sn ≤ (57 : Int) → post (some (xi (1 : Int))) I L (gG D)))))))) : xR d 103 es_103 0 [xi sn] [] I L (gG D) 0 0 post := sg_103_0  (⟨⟨h.1, (by decide)⟩, ⟨fun q3508 => ⟨(by decide), (h.2.1 q3508)⟩, fun q3509 => ⟨⟨h.1, (by decide)⟩, ⟨fun q3506 => ⟨(by decide), ((h.2.2 q3509).1 q3506)⟩, fun q3507 => ⟨(by decide), ((h.2.2 q3509).2 q3507)⟩⟩⟩⟩⟩)
theorem c_103 {I : XI} {L : XL} {D : GD}   {sn : Int} (h : (-2147483648 ≤ sn ∧ sn ≤ 2147483647)) : xM 0 103 [xi sn] I L (gG D) (0, 0) (xD (some (xi (xb ((48 ≤ sn ∧ sn ≤ 57))))) I L (gG D)) := by
  intro d hd
  refine w_103 (by omega) ?_
  repeat' first | (with_reducible intro _) | (with_reducible refine And.intro ?_ ?_)
  all_goals first | omega | exact xD_in | assumption | (refine xD_eq ?_ rfl rfl; first | rfl | rw [xb_t (by omega)] | rw [xb_f (by omega)] | (rw [xb_t (by assumption)]) | (rw [xb_f (by assumption)]) | (rw [xb_t (by simp_all; done)]) | (rw [xb_f (by simp_all; done)]))
set_option maxRecDepth 8000 in
theorem sg_104_0 {d : Nat} {I : XI} {L : XL} {D : GD} {post : XQ}  {u0 : Int} (h : (((-2147483648 ≤ u0 ∧ u0 ≤ 2147483647) ∧ (-2147483648 ≤ (97 : Int) ∧ (97 : Int) ≤ 2147483647)) ∧ ((u0 < (97 : Int) → (((0 : Int) = 0 ∨ (0 : Int) = 1) ∧ post (some (xi (0 : Int))) I L (gG D))) ∧ ((97 : Int) ≤ u0 → (((-2147483648 ≤ u0 ∧ u0 ≤ 2147483647) ∧ (-2147483648 ≤ (122 : Int) ∧ (122 : Int) ≤ 2147483647)) ∧ (((122 : Int) < u0 → (((0 : Int) = 0 ∨ (0 : Int) = 1) ∧ post (some (xi (0 : Int))) I L (gG D))) ∧ (u0 ≤ (122 : Int) → (((1 : Int) = 0 ∨ (1 : Int) = 1) ∧ post (some (xi (1 : Int))) I L (gG D))))))))) : xR d 104 es_104 0 [xi u0] [] I L (gG D) 0 0 post := xW_R (fun k => false) 9 _ _ _ _ _ _ _ _ _ _ _ _ h
set_option maxRecDepth 8000 in
theorem w_104 {d : Nat} {I : XI} {L : XL} {D : GD} {post : XQ}   {sn : Int} (hd : 0 ≤ d) (h : (((-2147483648 ≤ sn ∧ sn ≤ 2147483647)) ∧ ((sn < (97 : Int) → post (some (xi (0 : Int))) I L (gG D)) ∧ ((97 : Int) ≤ sn → ((((122 : Int) < sn → post (some (xi (0 : Int))) I L (gG D)) ∧ (sn ≤ (122 : Int) → post (some (xi (1 : Int))) I L (gG D)))))))) : xR d 104 es_104 0 [xi sn] [] I L (gG D) 0 0 post := sg_104_0  (⟨⟨h.1, (by decide)⟩, ⟨fun q3512 => ⟨(by decide), (h.2.1 q3512)⟩, fun q3513 => ⟨⟨h.1, (by decide)⟩, ⟨fun q3510 => ⟨(by decide), ((h.2.2 q3513).1 q3510)⟩, fun q3511 => ⟨(by decide), ((h.2.2 q3513).2 q3511)⟩⟩⟩⟩⟩)
theorem c_104 {I : XI} {L : XL} {D : GD}   {sn : Int} (h : (-2147483648 ≤ sn ∧ sn ≤ 2147483647)) : xM 0 104 [xi sn] I L (gG D) (0, 0) (xD (some (xi (xb ((97 ≤ sn ∧ sn ≤ 122))))) I L (gG D)) := by
  intro d hd
  refine w_104 (by omega) ?_
  repeat' first | (with_reducible intro _) | (with_reducible refine And.intro ?_ ?_)
  all_goals first | omega | exact xD_in | assumption | (refine xD_eq ?_ rfl rfl; first | rfl | rw [xb_t (by omega)] | rw [xb_f (by omega)] | (rw [xb_t (by assumption)]) | (rw [xb_f (by assumption)]) | (rw [xb_t (by simp_all; done)]) | (rw [xb_f (by simp_all; done)]))
set_option maxRecDepth 8000 in
theorem sg_101_0 {d : Nat} {I : XI} {L : XL} {D : GD} {post : XQ}  {u1 : Int} {u2 : Int} {u3 : Int} (h : ((-2147483648 ≤ (I 1 (4 : Int)) ∧ (I 1 (4 : Int)) ≤ 2147483647) ∧ (((I 1 (4 : Int)) < 0 → post none I L (gG D)) ∧ (0 ≤ (I 1 (4 : Int)) → (((-2147483648 ≤ (I 1 (4 : Int)) ∧ (I 1 (4 : Int)) ≤ 2147483647) ∧ (-2147483648 ≤ (400 : Int) ∧ (400 : Int) ≤ 2147483647)) ∧ (((400 : Int) < (I 1 (4 : Int)) → post none I L (gG D)) ∧ ((I 1 (4 : Int)) ≤ (400 : Int) → ((0 ≤ (I 1 (4 : Int)) ∧ (I 1 (4 : Int)) < (401 : Int)) ∧ ((0 ≤ (I 1 (4 : Int)) ∧ (I 1 (4 : Int)) < (401 : Int)) ∧ ((0 ≤ (I 1 (4 : Int)) ∧ (I 1 (4 : Int)) < (401 : Int)) ∧ post none (xwr (xwr (xwr (xwr I 3 (I 1 (4 : Int)) u1) 4 (I 1 (4 : Int)) u2) 5 (I 1 (4 : Int)) u3) 1 (4 : Int) ((I 1 (4 : Int)) + (1 : Int))) L (gG D))))))))))) : xR d 101 es_101 0 [xr (some 1), xi u1, xi u2, xi u3] [] I L (gG D) 0 0 post := xW_R (fun k => false) 32 _ _ _ _ _ _ _ _ _ _ _ _ h
set_option maxRecDepth 8000 in
theorem w_101 {d : Nat} {I : XI} {L : XL} {D : GD} {post : XQ}   {pc : Int} {pl : Int} {nm : Int} (hd : 0 ≤ d) (h : (((-2147483648 ≤ (I 1 (4 : Int)) ∧ (I 1 (4 : Int)) ≤ 2147483647)) ∧ (((I 1 (4 : Int)) < 0 → post none I L (gG D)) ∧ (0 ≤ (I 1 (4 : Int)) → ((((400 : Int) < (I 1 (4 : Int)) → post none I L (gG D)) ∧ ((I 1 (4 : Int)) ≤ (400 : Int) → (((0 ≤ (I 1 (4 : Int)) ∧ (I 1 (4 : Int)) < (401 : Int))) ∧ post none (xsc (xsc (xsc (xsc I 1 (xup (I 1) (4 : Int) ((I 1 (4 : Int)) + (1 : Int)))) 3 (xup (I 3) (I 1 (4 : Int)) pc)) 4 (xup (I 4) (I 1 (4 : Int)) pl)) 5 (xup (I 5) (I 1 (4 : Int)) nm)) L (gG D))))))))) : xR d 101 es_101 0 [xr (some 1), xi pc, xi pl, xi nm] [] I L (gG D) 0 0 post := sg_101_0  (⟨h.1, ⟨fun q3516 => (h.2.1 q3516), fun q3517 => ⟨⟨h.1, (by decide)⟩, ⟨fun q3514 => ((h.2.2 q3517).1 q3514), fun q3515 => ⟨((h.2.2 q3517).2 q3515).1, ⟨((h.2.2 q3517).2 q3515).1, ⟨((h.2.2 q3517).2 q3515).1, (xpost ((h.2.2 q3517).2 q3515).2 (funext fun i => (xpt rfl (fun h5_ => (xpt rfl (fun h4_ => (xpt rfl (fun h3_ => (xpt rfl (fun h1_ => (by simp only [xsc_ne _ _ h1_, xwr_ne _ _ _ h1_, xsc_ne _ _ h3_, xwr_ne _ _ _ h3_, xsc_ne _ _ h4_, xwr_ne _ _ _ h4_, xsc_ne _ _ h5_, xwr_ne _ _ _ h5_])))))))))) rfl)⟩⟩⟩⟩⟩⟩⟩)
theorem c_101 {I : XI} {L : XL} {D : GD}   {pc : Int} {pl : Int} {nm : Int} (h : (0 ≤ I 1 (4 : Int) ∧ I 1 (4 : Int) ≤ 400)) : xM 0 101 [xr (some 1), xi pc, xi pl, xi nm] I L (gG D) (0, 0) (xD none (xsc (xsc (xsc (xsc I 1 (xup (I 1) (4 : Int) (I 1 (4 : Int) + 1))) 3 (xup (I 3) (I 1 (4 : Int)) pc)) 4 (xup (I 4) (I 1 (4 : Int)) pl)) 5 (xup (I 5) (I 1 (4 : Int)) nm)) L (gG D)) := by
  intro d hd
  refine w_101 (by omega) ?_
  repeat' first | (with_reducible intro _) | (with_reducible refine And.intro ?_ ?_)
  all_goals first | omega | exact xD_in | assumption | (refine xD_eq ?_ rfl rfl; first | rfl | rw [xb_t (by omega)] | rw [xb_f (by omega)] | (rw [xb_t (by assumption)]) | (rw [xb_f (by assumption)]) | (rw [xb_t (by simp_all; done)]) | (rw [xb_f (by simp_all; done)]))
set_option maxRecDepth 8000 in
theorem sg_98_0 {d : Nat} {I : XI} {L : XL} {D : GD} {post : XQ}  {u1 : Int} (h : xR d 98 es_98 4 [xr (some 1), xi u1, xi (0 : Int), xi u1] [] I L (gG D) 0 0 post) : xR d 98 es_98 0 [xr (some 1), xi u1, xt 0, xt 0] [] I L (gG D) 0 0 post := xW_R (fun k => Nat.beq k 4 || Nat.beq k 10 || Nat.beq k 11 || Nat.beq k 23 || Nat.beq k 41) 4 _ _ _ _ _ _ _ _ _ _ _ _ h
set_option maxRecDepth 8000 in
theorem w_98 {d : Nat} {I : XI} {L : XL} {D : GD} {post : XQ}   {fm : Int} (hd : 0 ≤ d) (h : xR d 98 es_98 4 [xr (some 1), xi fm, xi (0 : Int), xi fm] [] I L (gG D) 0 0 post) : xR d 98 es_98 0 [xr (some 1), xi fm, xt 0, xt 0] [] I L (gG D) 0 0 post := sg_98_0  (h)
set_option maxRecDepth 8000 in
theorem sg_98_4 {d : Nat} {I : XI} {L : XL} {D : GD} {post : XQ}  {u1 : Int} {u2 : Int} {u3 : Int} (h : (((-2147483648 ≤ u3 ∧ u3 ≤ 2147483647) ∧ (-2147483648 ≤ (I 1 (6 : Int)) ∧ (I 1 (6 : Int)) ≤ 2147483647)) ∧ (((I 1 (6 : Int)) ≤ u3 → (((-2147483648 ≤ (u3 - u1) ∧ (u3 - u1) ≤ 2147483647) ∧ (-2147483648 ≤ (5 : Int) ∧ (5 : Int) ≤ 2147483647)) ∧ (((u3 - u1) ≤ (5 : Int) → xR d 98 es_98 41 [xr (some 1), xi u1, xi u2, xi u3] [xi u2, xi u1, xi (256 : Int), xr (some 1)] I L (gG D) 0 0 post) ∧ ((5 : Int) < (u3 - u1) → xR d 98 es_98 41 [xr (some 1), xi u1, xi u2, xi u3] [xi (-1 : Int), xi u1, xi (256 : Int), xr (some 1)] I L (gG D) 0 0 post)))) ∧ (u3 < (I 1 (6 : Int)) → xR d 98 es_98 10 [xr (some 1), xi u1, xi u2, xi u3] [xi u3, xr (some 1)] I L (gG D) 0 0 post)))) : xR d 98 es_98 4 [xr (some 1), xi u1, xi u2, xi u3] [] I L (gG D) 0 0 post := xW_R (fun k => Nat.beq k 4 || Nat.beq k 10 || Nat.beq k 11 || Nat.beq k 23 || Nat.beq k 41) 14 _ _ _ _ _ _ _ _ _ _ _ _ h
set_option maxRecDepth 8000 in
theorem sg_98_42 {d : Nat} {I : XI} {L : XL} {D : GD} {post : XQ}  {u1 : Int} {u2 : Int} {u3 : Int} (h : post (some (xi u3)) I L (gG D)) : xR d 98 es_98 42 [xr (some 1), xi u1, xi u2, xi u3] [] I L (gG D) 0 0 post := xW_R (fun k => Nat.beq k 4 || Nat.beq k 10 || Nat.beq k 11 || Nat.beq k 23 || Nat.beq k 41) 2 _ _ _ _ _ _ _ _ _ _ _ _ h
set_option maxRecDepth 8000 in
theorem sg_98_12 {d : Nat} {I : XI} {L : XL} {D : GD} {post : XQ}  {u1 : Int} {u2 : Int} {u3 : Int} {w0 : Int} (h : ((-2147483648 ≤ w0 ∧ w0 ≤ 2147483647) ∧ ((w0 = 0 → (((-2147483648 ≤ (u3 - u1) ∧ (u3 - u1) ≤ 2147483647) ∧ (-2147483648 ≤ (5 : Int) ∧ (5 : Int) ≤ 2147483647)) ∧ (((u3 - u1) ≤ (5 : Int) → xR d 98 es_98 41 [xr (some 1), xi u1, xi u2, xi u3] [xi u2, xi u1, xi (256 : Int), xr (some 1)] I L (gG D) 0 0 post) ∧ ((5 : Int) < (u3 - u1) → xR d 98 es_98 41 [xr (some 1), xi u1, xi u2, xi u3] [xi (-1 : Int), xi u1, xi (256 : Int), xr (some 1)] I L (gG D) 0 0 post)))) ∧ (¬ w0 = 0 → (((-2147483648 ≤ (u3 - u1) ∧ (u3 - u1) ≤ 2147483647) ∧ (-2147483648 ≤ (5 : Int) ∧ (5 : Int) ≤ 2147483647)) ∧ (((5 : Int) ≤ (u3 - u1) → xR d 98 es_98 4 [xr (some 1), xi u1, xi u2, xi (u3 + (1 : Int))] [] I L (gG D) 0 0 post) ∧ ((u3 - u1) < (5 : Int) → xR d 98 es_98 23 [xr (some 1), xi u1, xi u2, xi u3] [xi u3, xr (some 1), xi (u2 * (10 : Int))] I L (gG D) 0 0 post))))))) : xR d 98 es_98 12 [xr (some 1), xi u1, xi u2, xi u3] [xi w0] I L (gG D) 0 0 post := xW_R (fun k => Nat.beq k 4 || Nat.beq k 10 || Nat.beq k 11 || Nat.beq k 23 || Nat.beq k 41) 11 _ _ _ _ _ _ _ _ _ _ _ _ h
set_option maxRecDepth 8000 in
theorem sg_98_24 {d : Nat} {I : XI} {L : XL} {D : GD} {post : XQ}  {u1 : Int} {u2 : Int} {u3 : Int} {w0 : Int} {w1 : Int} (h : xR d 98 es_98 4 [xr (some 1), xi u1, xi ((w0 + w1) - (48 : Int)), xi (u3 + (1 : Int))] [] I L (gG D) 0 0 post) : xR d 98 es_98 24 [xr (some 1), xi u1, xi u2, xi u3] [xi w1, xi w0] I L (gG D) 0 0 post := xW_R (fun k => Nat.beq k 4 || Nat.beq k 10 || Nat.beq k 11 || Nat.beq k 23 || Nat.beq k 41) 6 _ _ _ _ _ _ _ _ _ _ _ _ h
set_option maxRecDepth 8000 in
theorem b_98 {d : Nat} {I : XI} {L : XL} {D : GD} {post : XQ}   {fm : Int} {v : Int} {bh : Int} (hd : 1 ≤ d) (h : (((-2147483648 ≤ bh ∧ bh ≤ 2147483647) ∧ (-2147483648 ≤ (I 1 (6 : Int)) ∧ (I 1 (6 : Int)) ≤ 2147483647)) ∧ (((I 1 (6 : Int)) ≤ bh → (((-2147483648 ≤ (bh - fm) ∧ (bh - fm) ≤ 2147483647)) ∧ (((bh - fm) ≤ (5 : Int) → ((0 ≤ I 1 (4 : Int) ∧ I 1 (4 : Int) ≤ 400) ∧ post (some (xi bh)) (xsc (xsc (xsc (xsc I 1 (xup (I 1) (4 : Int) (I 1 (4 : Int) + 1))) 3 (xup (I 3) (I 1 (4 : Int)) (256 : Int))) 4 (xup (I 4) (I 1 (4 : Int)) fm)) 5 (xup (I 5) (I 1 (4 : Int)) v)) L (gG D))) ∧ ((5 : Int) < (bh - fm) → ((0 ≤ I 1 (4 : Int) ∧ I 1 (4 : Int) ≤ 400) ∧ post (some (xi bh)) (xsc (xsc (xsc (xsc I 1 (xup (I 1) (4 : Int) (I 1 (4 : Int) + 1))) 3 (xup (I 3) (I 1 (4 : Int)) (256 : Int))) 4 (xup (I 4) (I 1 (4 : Int)) fm)) 5 (xup (I 5) (I 1 (4 : Int)) (-1 : Int))) L (gG D)))))) ∧ (bh < (I 1 (6 : Int)) → ((TPO (I 2) (I 1 (6 : Int)) ∧ (0 ≤ bh ∧ bh ≤ 2000)) ∧ ((-2147483648 ≤ (tc (I 2) (I 1 (6 : Int)) bh) ∧ (tc (I 2) (I 1 (6 : Int)) bh) ≤ 2147483647) ∧ (((¬ ((48 ≤ (tc (I 2) (I 1 (6 : Int)) bh) ∧ (tc (I 2) (I 1 (6 : Int)) bh) ≤ 57)) → (((-2147483648 ≤ (bh - fm) ∧ (bh - fm) ≤ 2147483647)) ∧ (((bh - fm) ≤ (5 : Int) → ((0 ≤ I 1 (4 : Int) ∧ I 1 (4 : Int) ≤ 400) ∧ post (some (xi bh)) (xsc (xsc (xsc (xsc I 1 (xup (I 1) (4 : Int) (I 1 (4 : Int) + 1))) 3 (xup (I 3) (I 1 (4 : Int)) (256 : Int))) 4 (xup (I 4) (I 1 (4 : Int)) fm)) 5 (xup (I 5) (I 1 (4 : Int)) v)) L (gG D))) ∧ ((5 : Int) < (bh - fm) → ((0 ≤ I 1 (4 : Int) ∧ I 1 (4 : Int) ≤ 400) ∧ post (some (xi bh)) (xsc (xsc (xsc (xsc I 1 (xup (I 1) (4 : Int) (I 1 (4 : Int) + 1))) 3 (xup (I 3) (I 1 (4 : Int)) (256 : Int))) 4 (xup (I 4) (I 1 (4 : Int)) fm)) 5 (xup (I 5) (I 1 (4 : Int)) (-1 : Int))) L (gG D)))))) ∧ ((48 ≤ (tc (I 2) (I 1 (6 : Int)) bh) ∧ (tc (I 2) (I 1 (6 : Int)) bh) ≤ 57) → (((-2147483648 ≤ (bh - fm) ∧ (bh - fm) ≤ 2147483647)) ∧ (((5 : Int) ≤ (bh - fm) → xR d 98 es_98 4 [xr (some 1), xi fm, xi v, xi (bh + (1 : Int))] [] I L (gG D) 0 0 post) ∧ ((bh - fm) < (5 : Int) → xR d 98 es_98 4 [xr (some 1), xi fm, xi (((v * (10 : Int)) + (tc (I 2) (I 1 (6 : Int)) bh)) - (48 : Int)), xi (bh + (1 : Int))] [] I L (gG D) 0 0 post)))))))))))) : xR d 98 es_98 4 [xr (some 1), xi fm, xi v, xi bh] [] I L (gG D) 0 0 post := sg_98_4  (⟨⟨h.1.1, h.1.2⟩, ⟨fun q3526 => ⟨⟨(h.2.1 q3526).1, (by decide)⟩, ⟨fun q3518 => (xR_cF rfl rfl rfl (c_101 ((h.2.1 q3526).2.1 q3518).1) (by omega) (sg_98_42  ((h.2.1 q3526).2.1 q3518).2)), fun q3519 => (xR_cF rfl rfl rfl (c_101 ((h.2.1 q3526).2.2 q3519).1) (by omega) (sg_98_42  ((h.2.1 q3526).2.2 q3519).2))⟩⟩, fun q3527 => (xR_cF rfl rfl rfl (c_102 (h.2.2 q3527).1) (by omega) (xR_cF rfl rfl rfl (c_103 (h.2.2 q3527).2.1) (by omega) (sg_98_12  ⟨(xb_rg _), ⟨fun q3524 => ⟨⟨((h.2.2 q3527).2.2.1 (xb_0 q3524)).1, (by decide)⟩, ⟨fun q3520 => (xR_cF rfl rfl rfl (c_101 (((h.2.2 q3527).2.2.1 (xb_0 q3524)).2.1 q3520).1) (by omega) (sg_98_42  (((h.2.2 q3527).2.2.1 (xb_0 q3524)).2.1 q3520).2)), fun q3521 => (xR_cF rfl rfl rfl (c_101 (((h.2.2 q3527).2.2.1 (xb_0 q3524)).2.2 q3521).1) (by omega) (sg_98_42  (((h.2.2 q3527).2.2.1 (xb_0 q3524)).2.2 q3521).2))⟩⟩, fun q3525 => ⟨⟨((h.2.2 q3527).2.2.2 (xb_n0 q3525)).1, (by decide)⟩, ⟨fun q3522 => (((h.2.2 q3527).2.2.2 (xb_n0 q3525)).2.1 q3522), fun q3523 => (xR_cF rfl rfl rfl (c_102 (h.2.2 q3527).1) (by omega) (sg_98_24  (((h.2.2 q3527).2.2.2 (xb_n0 q3525)).2.2 q3523)))⟩⟩⟩⟩)))⟩⟩)
theorem c_98 {I : XI} {L : XL} {D : GD}   {fm : Int} (h : (TPO (I 2) (I 1 (6 : Int)) ∧ (0 ≤ fm ∧ fm ≤ I 1 (6 : Int)) ∧ (0 ≤ I 1 (4 : Int) ∧ I 1 (4 : Int) ≤ 400))) : xM 1 98 [xr (some 1), xi fm] I L (gG D) (0, 0) (xD (some (xi (de_ (I 2) (I 1 (6 : Int)) fm))) (xsc (xsc (xsc (xsc I 1 (xup (I 1) (4 : Int) (I 1 (4 : Int) + 1))) 3 (xup (I 3) (I 1 (4 : Int)) 256)) 4 (xup (I 4) (I 1 (4 : Int)) fm)) 5 (xup (I 5) (I 1 (4 : Int)) (tnv (I 2) (I 1 (6 : Int)) fm))) L (gG D)) := by
  intro d hd
  obtain ⟨hT, h1, h2⟩ := h
  have hT1 := hT.1
  have hl := de_all (b := I 2) (n := I 1 6) (p := fm)
  have hl2 := hl.1.2 h1.2
  refine w_98 (by omega) ?_
  have key : ∀ k : Nat, k ≤ (de_ (I 2) (I 1 6) fm - fm).toNat → xR d 98 es_98 4 [xr (some 1), xi fm, xi (dvk (I 2) fm k), xi (fm + (k : Int))] [] I L (gG D) 0 0 (xD (some (xi (de_ (I 2) (I 1 (6 : Int)) fm))) (xsc (xsc (xsc (xsc I 1 (xup (I 1) (4 : Int) (I 1 (4 : Int) + 1))) 3 (xup (I 3) (I 1 (4 : Int)) 256)) 4 (xup (I 4) (I 1 (4 : Int)) fm)) 5 (xup (I 5) (I 1 (4 : Int)) (tnv (I 2) (I 1 (6 : Int)) fm))) L (gG D)) := by
    refine xfor ?_ ?_
    · have eq2 : fm + (((de_ (I 2) (I 1 6) fm - fm).toNat : Nat) : Int) = de_ (I 2) (I 1 6) fm := by omega
      have hdg := tc_dg hT (p := de_ (I 2) (I 1 6) fm) (by omega)
      have htr := tc_rg hT (de_ (I 2) (I 1 6) fm)
      have hno := hl.2.2
      have et : tnv (I 2) (I 1 6) fm = if 5 < de_ (I 2) (I 1 6) fm - fm then -1 else dvk (I 2) fm (de_ (I 2) (I 1 6) fm - fm).toNat := rfl
      rw [eq2, et]
      refine b_98 (by omega) ?_
      repeat' first | (with_reducible intro _) | (with_reducible refine And.intro ?_ ?_)
      all_goals first | omega | assumption | skip
      all_goals first
        | exact ⟨hT, by omega⟩
        | (exact absurd (hdg.mp (by assumption)) hno)
        | (rw [if_pos (by omega)]; exact xD_in)
        | (rw [if_neg (by omega)]; exact xD_in)
    · intro k hk ih 
      have hk1 := hl.2.1 (fm + (k : Int)) (by omega) (by omega)
      have hkb := of_decide_eq_true hk1
      have hdg := (tc_dg hT (p := fm + (k : Int)) (by omega)).mpr hk1
      have hvl := tc_val hT (p := fm + (k : Int)) (by omega) hkb.1
      have htr := tc_rg hT (fm + (k : Int))
      have hvk := dvk_rg5 (b := I 2) (n := I 1 6) (q := fm) (k := k) (fun j j0 j1 => hl.2.1 j j0 (by omega))
      have e : dvk (I 2) fm (k + 1) = if (k : Int) < 5 then 10 * dvk (I 2) fm k + I 2 (fm + (k : Int)) - 48 else dvk (I 2) fm k := rfl
      have ev : dvk (I 2) fm k * 10 + tc (I 2) (I 1 6) (fm + (k : Int)) - 48 = 10 * dvk (I 2) fm k + I 2 (fm + (k : Int)) - 48 := by omega
      rw [show fm + ((k + 1 : Nat) : Int) = fm + (k : Int) + 1 by omega] at ih
      refine b_98 (by omega) ?_
      simp only [ev]
      repeat' first | (with_reducible intro _) | (with_reducible refine And.intro ?_ ?_)
      all_goals first | omega | assumption | skip
      all_goals first
        | exact ⟨hT, by omega⟩
        | (exact absurd hdg (by assumption))
        | (rw [if_pos (by omega)] at e; rw [e] at ih; exact ih)
        | (rw [if_neg (by omega)] at e; rw [e] at ih; exact ih)
  have k0 := key 0 (Nat.zero_le _)
  rw [show fm + ((0 : Nat) : Int) = fm by omega] at k0
  exact k0
set_option maxRecDepth 8000 in
theorem sg_100_0 {d : Nat} {I : XI} {L : XL} {D : GD} {post : XQ}  {u1 : Int} {u2 : Int} {u3 : Int} (h : (((-2147483648 ≤ (u3 - u2) ∧ (u3 - u2) ≤ 2147483647) ∧ (-2147483648 ≤ (7 : Int) ∧ (7 : Int) ≤ 2147483647)) ∧ (((u3 - u2) ≤ (7 : Int) → xR d 100 es_100 9 [xr (some 1), xi u1, xi u2, xi u3, xi (0 : Int), xt 0] [] I L (gG D) 0 0 post) ∧ ((7 : Int) < (u3 - u2) → (((0 : Int) = 0 ∨ (0 : Int) = 1) ∧ post (some (xi (0 : Int))) I L (gG D)))))) : xR d 100 es_100 0 [xr (some 1), xi u1, xi u2, xi u3, xt 0, xt 0] [] I L (gG D) 0 0 post := xW_R (fun k => Nat.beq k 9 || Nat.beq k 27) 7 _ _ _ _ _ _ _ _ _ _ _ _ h
set_option maxRecDepth 8000 in
theorem w_100 {d : Nat} {I : XI} {L : XL} {D : GD} {post : XQ}   {na : Int} {fm : Int} {bh : Int} (hd : 0 ≤ d) (h : (((-2147483648 ≤ (bh - fm) ∧ (bh - fm) ≤ 2147483647)) ∧ (((bh - fm) ≤ (7 : Int) → xR d 100 es_100 9 [xr (some 1), xi na, xi fm, xi bh, xi (0 : Int), xt 0] [] I L (gG D) 0 0 post) ∧ ((7 : Int) < (bh - fm) → post (some (xi (0 : Int))) I L (gG D))))) : xR d 100 es_100 0 [xr (some 1), xi na, xi fm, xi bh, xt 0, xt 0] [] I L (gG D) 0 0 post := sg_100_0  (⟨⟨h.1, (by decide)⟩, ⟨fun q3528 => (h.2.1 q3528), fun q3529 => ⟨(by decide), (h.2.2 q3529)⟩⟩⟩)
set_option maxRecDepth 8000 in
theorem sg_100_9 {d : Nat} {I : XI} {L : XL} {D : GD} {post : XQ}  {u1 : Int} {u2 : Int} {u3 : Int} {u4 : Int} {u5 : XV} (h : (((-2147483648 ≤ u4 ∧ u4 ≤ 2147483647) ∧ (-2147483648 ≤ (7 : Int) ∧ (7 : Int) ≤ 2147483647)) ∧ (((7 : Int) ≤ u4 → (((1 : Int) = 0 ∨ (1 : Int) = 1) ∧ post (some (xi (1 : Int))) I L (gG D))) ∧ (u4 < (7 : Int) → ((8 ≤ d ∧ 1 ≤ 8) ∧ (((-2147483648 ≤ (u1 + u4) ∧ (u1 + u4) ≤ 2147483647) ∧ (-2147483648 ≤ (126 : Int) ∧ (126 : Int) ≤ 2147483647)) ∧ (((126 : Int) ≤ (u1 + u4) → (((1 : Int) = 0 ∨ (1 : Int) = 1) ∧ post (some (xi (1 : Int))) I L (gG D))) ∧ ((u1 + u4) < (126 : Int) → (((-2147483648 ≤ (u2 + u4) ∧ (u2 + u4) ≤ 2147483647) ∧ (-2147483648 ≤ u3 ∧ u3 ≤ 2147483647)) ∧ ((u3 ≤ (u2 + u4) → ((8 ≤ d ∧ 0 ≤ 8 ∧ 0 ≤ (u1 + u4) ∧ (u1 + u4) < 126) ∧ (((-2147483648 ≤ (xch (u1 + u4)) ∧ (xch (u1 + u4)) ≤ 2147483647) ∧ (-2147483648 ≤ (32 : Int) ∧ (32 : Int) ≤ 2147483647)) ∧ (((xch (u1 + u4)) = (32 : Int) → xR d 100 es_100 9 [xr (some 1), xi u1, xi u2, xi u3, xi (u4 + (1 : Int)), xi (32 : Int)] [] I L (gG D) 0 0 post) ∧ (¬ (xch (u1 + u4)) = (32 : Int) → (((0 : Int) = 0 ∨ (0 : Int) = 1) ∧ post (some (xi (0 : Int))) I L (gG D))))))) ∧ ((u2 + u4) < u3 → xR d 100 es_100 27 [xr (some 1), xi u1, xi u2, xi u3, xi u4, u5] [xi (u2 + u4), xr (some 1)] I L (gG D) 0 0 post))))))))))) : xR d 100 es_100 9 [xr (some 1), xi u1, xi u2, xi u3, xi u4, u5] [] I L (gG D) 0 0 post := xW_R (fun k => Nat.beq k 9 || Nat.beq k 27) 25 _ _ _ _ _ _ _ _ _ _ _ _ h
set_option maxRecDepth 8000 in
theorem sg_100_28 {d : Nat} {I : XI} {L : XL} {D : GD} {post : XQ}  {u1 : Int} {u2 : Int} {u3 : Int} {u4 : Int} {u5 : XV} {w0 : Int} (h : ((8 ≤ d ∧ 0 ≤ 8 ∧ 0 ≤ (u1 + u4) ∧ (u1 + u4) < 126) ∧ (((-2147483648 ≤ (xch (u1 + u4)) ∧ (xch (u1 + u4)) ≤ 2147483647) ∧ (-2147483648 ≤ w0 ∧ w0 ≤ 2147483647)) ∧ (((xch (u1 + u4)) = w0 → xR d 100 es_100 9 [xr (some 1), xi u1, xi u2, xi u3, xi (u4 + (1 : Int)), xi w0] [] I L (gG D) 0 0 post) ∧ (¬ (xch (u1 + u4)) = w0 → (((0 : Int) = 0 ∨ (0 : Int) = 1) ∧ post (some (xi (0 : Int))) I L (gG D))))))) : xR d 100 es_100 28 [xr (some 1), xi u1, xi u2, xi u3, xi u4, u5] [xi w0] I L (gG D) 0 0 post := xW_R (fun k => Nat.beq k 9 || Nat.beq k 27) 11 _ _ _ _ _ _ _ _ _ _ _ _ h
set_option maxRecDepth 8000 in
theorem b_100 {d : Nat} {I : XI} {L : XL} {D : GD} {post : XQ}   {na : Int} {fm : Int} {bh : Int} {i0 : Int} {x5 : XV} (hd : 8 ≤ d) (h : (((-2147483648 ≤ i0 ∧ i0 ≤ 2147483647)) ∧ (((7 : Int) ≤ i0 → post (some (xi (1 : Int))) I L (gG D)) ∧ (i0 < (7 : Int) → (((-2147483648 ≤ (na + i0) ∧ (na + i0) ≤ 2147483647)) ∧ (((126 : Int) ≤ (na + i0) → post (some (xi (1 : Int))) I L (gG D)) ∧ ((na + i0) < (126 : Int) → (((-2147483648 ≤ (fm + i0) ∧ (fm + i0) ≤ 2147483647) ∧ (-2147483648 ≤ bh ∧ bh ≤ 2147483647)) ∧ ((bh ≤ (fm + i0) → ((0 ≤ (na + i0) ∧ (na + i0) < 126) ∧ (((-2147483648 ≤ (xch (na + i0)) ∧ (xch (na + i0)) ≤ 2147483647)) ∧ (((xch (na + i0)) = (32 : Int) → xR d 100 es_100 9 [xr (some 1), xi na, xi fm, xi bh, xi (i0 + (1 : Int)), xi (32 : Int)] [] I L (gG D) 0 0 post) ∧ (¬ (xch (na + i0)) = (32 : Int) → post (some (xi (0 : Int))) I L (gG D)))))) ∧ ((fm + i0) < bh → ((TPO (I 2) (I 1 (6 : Int)) ∧ (0 ≤ (fm + i0) ∧ (fm + i0) ≤ 2000)) ∧ ((0 ≤ (na + i0) ∧ (na + i0) < 126) ∧ (((-2147483648 ≤ (xch (na + i0)) ∧ (xch (na + i0)) ≤ 2147483647) ∧ (-2147483648 ≤ (tc (I 2) (I 1 (6 : Int)) (fm + i0)) ∧ (tc (I 2) (I 1 (6 : Int)) (fm + i0)) ≤ 2147483647)) ∧ (((xch (na + i0)) = (tc (I 2) (I 1 (6 : Int)) (fm + i0)) → xR d 100 es_100 9 [xr (some 1), xi na, xi fm, xi bh, xi (i0 + (1 : Int)), xi (tc (I 2) (I 1 (6 : Int)) (fm + i0))] [] I L (gG D) 0 0 post) ∧ (¬ (xch (na + i0)) = (tc (I 2) (I 1 (6 : Int)) (fm + i0)) → post (some (xi (0 : Int))) I L (gG D)))))))))))))))) : xR d 100 es_100 9 [xr (some 1), xi na, xi fm, xi bh, xi i0, x5] [] I L (gG D) 0 0 post := sg_100_9  (⟨⟨h.1, (by decide)⟩, ⟨fun q3538 => ⟨(by decide), (h.2.1 q3538)⟩, fun q3539 => ⟨⟨(by omega), (by decide)⟩, ⟨⟨(h.2.2 q3539).1, (by decide)⟩, ⟨fun q3536 => ⟨(by decide), ((h.2.2 q3539).2.1 q3536)⟩, fun q3537 => ⟨⟨((h.2.2 q3539).2.2 q3537).1.1, ((h.2.2 q3539).2.2 q3537).1.2⟩, ⟨fun q3534 => ⟨⟨(by omega), (by decide), (((h.2.2 q3539).2.2 q3537).2.1 q3534).1.1, (((h.2.2 q3539).2.2 q3537).2.1 q3534).1.2⟩, ⟨⟨(((h.2.2 q3539).2.2 q3537).2.1 q3534).2.1, (by decide)⟩, ⟨fun q3530 => ((((h.2.2 q3539).2.2 q3537).2.1 q3534).2.2.1 q3530), fun q3531 => ⟨(by decide), ((((h.2.2 q3539).2.2 q3537).2.1 q3534).2.2.2 q3531)⟩⟩⟩⟩, fun q3535 => (xR_cF rfl rfl rfl (c_102 (((h.2.2 q3539).2.2 q3537).2.2 q3535).1) (by omega) (sg_100_28  ⟨⟨(by omega), (by decide), (((h.2.2 q3539).2.2 q3537).2.2 q3535).2.1.1, (((h.2.2 q3539).2.2 q3537).2.2 q3535).2.1.2⟩, ⟨⟨(((h.2.2 q3539).2.2 q3537).2.2 q3535).2.2.1.1, (((h.2.2 q3539).2.2 q3537).2.2 q3535).2.2.1.2⟩, ⟨fun q3532 => ((((h.2.2 q3539).2.2 q3537).2.2 q3535).2.2.2.1 q3532), fun q3533 => ⟨(by decide), ((((h.2.2 q3539).2.2 q3537).2.2 q3535).2.2.2.2 q3533)⟩⟩⟩⟩))⟩⟩⟩⟩⟩⟩⟩)
theorem xch_rgl : (List.range 126).all (fun j => decide (0 ≤ xnm.getD j 0 ∧ xnm.getD j 0 ≤ 200)) = true := by decide +kernel
theorem xch_rg (a : Int) : 0 ≤ xch a ∧ xch a ≤ 200 := by
  unfold xch
  by_cases h : a.toNat < 126
  · exact of_decide_eq_true (List.all_eq_true.mp xch_rgl a.toNat (List.mem_range.mpr h))
  · have hl : xnm.length = 126 := by decide +kernel
    unfold List.getD
    rw [List.getElem?_eq_none (by omega)]
    decide
theorem c_100 {I : XI} {L : XL} {D : GD}   {na : Int} {fm : Int} {bh : Int} (h : (TPO (I 2) (I 1 (6 : Int)) ∧ (0 ≤ na ∧ na ≤ 119) ∧ (0 ≤ fm ∧ fm ≤ 400) ∧ (0 ≤ bh ∧ bh ≤ 400))) : xM 8 100 [xr (some 1), xi na, xi fm, xi bh] I L (gG D) (0, 0) (xD (some (xi (xb ((bh - fm ≤ 7 ∧ inm (I 2) (I 1 (6 : Int)) na fm bh = true))))) I L (gG D)) := by
  intro d hd
  obtain ⟨hT, h1, h2, h3⟩ := h
  have hT1 := hT.1
  refine w_100 (by omega) ?_
  by_cases q7 : 7 < bh - fm
  · rw [xb_f (fun r => absurd r.1 (by omega))]
    repeat' first | (with_reducible intro _) | (with_reducible refine And.intro ?_ ?_)
    all_goals first | omega | exact xD_in
  · repeat' first | (with_reducible intro _) | (with_reducible refine And.intro ?_ ?_)
    all_goals first | omega | skip
    have key : ∀ k : Nat, k ≤ 7 → ∀ (x5 : XV), inm (I 2) (I 1 6) na fm bh = (!(pany (fun j => decide (¬ xch (na + (j : Int)) = if fm + (j : Int) < bh then tc (I 2) (I 1 6) (fm + (j : Int)) else 32)) (7 - k) k)) → xR d 100 es_100 9 [xr (some 1), xi na, xi fm, xi bh, xi (k : Int), x5] [] I L (gG D) 0 0 (xD (some (xi (xb (bh - fm ≤ 7 ∧ inm (I 2) (I 1 6) na fm bh = true)))) I L (gG D)) := by
      refine xfor ?_ ?_
      · intro x5 hy
        refine b_100 (by omega) ?_
        repeat' first | (with_reducible intro _) | (with_reducible refine And.intro ?_ ?_)
        all_goals first | omega | assumption | skip
        all_goals first
          | (rw [xb_t ⟨by omega, by rw [hy]; rfl⟩]; exact xD_in)
          | omega
      · intro k hk ih x5 hy
        have htr := tc_rg hT (fm + (k : Int))
        have hxr := xch_rg (na + (k : Int))
        rw [show 7 - (k + 1) = 7 - k - 1 by omega] at ih
        refine b_100 (by omega) ?_
        repeat' first | (with_reducible intro _) | (with_reducible refine And.intro ?_ ?_)
        all_goals first | omega | assumption | skip
        all_goals first
          | exact ⟨hT, by omega⟩
          | (have hq : xch (na + (k : Int)) = if fm + (k : Int) < bh then tc (I 2) (I 1 6) (fm + (k : Int)) else 32 := by first | (rw [if_pos (by assumption)]; assumption) | (rw [if_neg (by omega)]; assumption)
             exact ih _ (by rw [hy, pany_neg (F := fun j : Nat => decide (¬ xch (na + (j : Int)) = if fm + (j : Int) < bh then tc (I 2) (I 1 6) (fm + (j : Int)) else 32)) (by omega) (by simp only [decide_eq_true_eq]; exact fun r => r hq)]))
          | (have hq : ¬ xch (na + (k : Int)) = if fm + (k : Int) < bh then tc (I 2) (I 1 6) (fm + (k : Int)) else 32 := by first | (rw [if_pos (by assumption)]; assumption) | (rw [if_neg (by omega)]; assumption)
             rw [xb_f (fun r => by rw [hy, pany_pos (F := fun j : Nat => decide (¬ xch (na + (j : Int)) = if fm + (j : Int) < bh then tc (I 2) (I 1 6) (fm + (j : Int)) else 32)) (by omega) (by simp only [decide_eq_true_eq]; exact hq)] at r; exact absurd r.2 (by decide))]
             exact xD_in)
    exact key 0 (Nat.zero_le _) _ rfl
