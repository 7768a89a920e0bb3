def TKP (b : Int → Int) (n : Int) (Pc Pl Nm : Int → Int) (cnt fr : Int) : Prop := (0 ≤ cnt ∧ cnt ≤ fr) ∧ (0 ≤ fr ∧ fr ≤ n) ∧ (cnt = 0 → sk b n fr = sk b n 0) ∧ (0 < cnt → Pl 0 = sk b n 0 ∧ sk b n fr = nxt b n (Pl (cnt - 1))) ∧ ∀ i, 0 ≤ i → i < cnt → (0 ≤ Pl i ∧ Pl i ≤ n) ∧ Pc i = tkk b n (Pl i) ∧ Nm i = tkv b n (Pl i) ∧ (i + 1 < cnt → Pl (i + 1) = nxt b n (Pl i))
theorem TKP_bl {b Pc Pl Nm : Int → Int} {n cnt fr : Int} (h : TKP b n Pc Pl Nm cnt fr) (hb : fr < n ∧ b fr = 32) : TKP b n Pc Pl Nm cnt (fr + 1) := by
  obtain ⟨h1, h2, h3, h4, h5⟩ := h
  have e := sk_pos hb
  exact ⟨by omega, by omega, fun q => by rw [← e]; exact h3 q, fun q => by rw [← e]; exact h4 q, h5⟩
theorem TKP_add {b Pc Pl Nm : Int → Int} {n cnt fr fr2 : Int} (h : TKP b n Pc Pl Nm cnt fr) (hs : sk b n fr = fr) (h6 : cnt < fr2 ∧ fr2 ≤ n) (h7 : sk b n fr2 = nxt b n fr) : TKP b n (xup Pc cnt (tkk b n fr)) (xup Pl cnt fr) (xup Nm cnt (tkv b n fr)) (cnt + 1) fr2 := by
  obtain ⟨h1, h2, h3, h4, h5⟩ := h
  refine ⟨by omega, by omega, fun q => by omega, fun _ => ⟨?_, ?_⟩, fun i i0 i1 => ?_⟩
  · by_cases q : cnt = 0
    · rw [q, xup_same, ← h3 q]; exact hs.symm
    · rw [xup_ne _ _ (by omega)]; exact (h4 (by omega)).1
  · rw [show cnt + 1 - 1 = cnt by omega, xup_same]; exact h7
  · by_cases q : i = cnt
    · subst q
      rw [xup_same, xup_same, xup_same]
      exact ⟨h2, rfl, rfl, fun r => by omega⟩
    · rw [xup_ne _ _ q, xup_ne _ _ q, xup_ne _ _ q]
      obtain ⟨a1, a2, a3, a4⟩ := h5 i i0 (by omega)
      refine ⟨a1, a2, a3, fun r => ?_⟩
      by_cases q2 : i + 1 = cnt
      · rw [q2, xup_same, ← hs, (h4 (by omega)).2, show cnt - 1 = i by omega]
      · rw [xup_ne _ _ q2]; exact a4 (by omega)
theorem TKP_end {b Pc Pl Nm : Int → Int} {n cnt fr : Int} (h4 : n ≤ 400) (h : TKP b n Pc Pl Nm cnt fr) (hf : n ≤ fr) : TKS b n (xup Pc cnt (-1)) (xup Pl cnt n) (xup Nm cnt (-1)) (cnt + 1) := by
  have h2 := h.2.1
  have ef : fr = n := by omega
  have es : sk b n n = n := sk_neg (by omega)
  have e1 : tkk b n n = -1 := if_pos (by omega)
  have e2 : tkv b n n = -1 := if_neg (fun r => by have := dgt_lt n r; omega)
  have e3 : tke b n n = n := if_pos (by omega)
  have h8 : sk b n n = nxt b n n := by unfold nxt; rw [e3]
  have h0 := h.1
  subst ef
  have hx := h
  obtain ⟨h1, h2, h3, h4b, h5⟩ := h
  refine ⟨by omega, ?_, ?_, fun i i0 i1 => ?_⟩
  · by_cases q : cnt = 0
    · rw [q, xup_same, ← h3 q]; exact es.symm
    · rw [xup_ne _ _ (by omega)]; exact (h4b (by omega)).1
  · rw [show cnt + 1 - 1 = cnt by omega, xup_same]
  · by_cases q : i = cnt
    · subst q
      rw [xup_same, xup_same, xup_same, e1, e2]
      exact ⟨h2, rfl, rfl, fun r => by omega⟩
    · rw [xup_ne _ _ q, xup_ne _ _ q, xup_ne _ _ q]
      obtain ⟨a1, a2, a3, a4⟩ := h5 i i0 (by omega)
      refine ⟨a1, a2, a3, fun r => ?_⟩
      by_cases q2 : i + 1 = cnt
      · rw [q2, xup_same]
        have := (h4b (by omega)).2
        rw [es, show cnt - 1 = i by omega] at this
        exact this
      · rw [xup_ne _ _ q2]; exact a4 (by omega)
set_option maxRecDepth 8000 in
theorem sg_96_0 {d : Nat} {I : XI} {L : XL} {D : GD} {post : XQ}   (h : xR d 96 es_96 7 [xr (some 1), xi (0 : Int), xi (0 : Int)] [] (xwr I 1 (4 : Int) (0 : Int)) L (gG D) 0 0 post) : xR d 96 es_96 0 [xr (some 1), xt 0, xt 0] [] I L (gG D) 0 0 post := xW_R (fun k => Nat.beq k 7 || Nat.beq k 16 || Nat.beq k 25 || Nat.beq k 34) 7 _ _ _ _ _ _ _ _ _ _ _ _ h
set_option maxRecDepth 8000 in
theorem w_96 {d : Nat} {I : XI} {L : XL} {D : GD} {post : XQ}    (hd : 0 ≤ d) (h : xR d 96 es_96 7 [xr (some 1), xi (0 : Int), xi (0 : Int)] [] (xsc I 1 (xup (I 1) (4 : Int) (0 : Int))) L (gG D) 0 0 post) : xR d 96 es_96 0 [xr (some 1), xt 0, xt 0] [] I L (gG D) 0 0 post := sg_96_0  (h)
set_option maxRecDepth 8000 in
theorem sg_96_7 {d : Nat} {I : XI} {L : XL} {D : GD} {post : XQ}  {u1 : Int} {u2 : Int} (h : (((-2147483648 ≤ u2 ∧ u2 ≤ 2147483647) ∧ (-2147483648 ≤ (400 : Int) ∧ (400 : Int) ≤ 2147483647)) ∧ (((400 : Int) ≤ u2 → xR d 96 es_96 34 [xr (some 1), xi u1, xi u2] [xi (-1 : Int), xi (I 1 (6 : Int)), xi (-1 : Int), xr (some 1)] I L (gG D) 0 0 post) ∧ (u2 < (400 : Int) → (((-2147483648 ≤ u1 ∧ u1 ≤ 2147483647) ∧ (-2147483648 ≤ (I 1 (6 : Int)) ∧ (I 1 (6 : Int)) ≤ 2147483647)) ∧ (((I 1 (6 : Int)) ≤ u1 → xR d 96 es_96 34 [xr (some 1), xi u1, xi u2] [xi (-1 : Int), xi (I 1 (6 : Int)), xi (-1 : Int), xr (some 1)] I L (gG D) 0 0 post) ∧ (u1 < (I 1 (6 : Int)) → xR d 96 es_96 16 [xr (some 1), xi u1, xi u2] [xi u1, xr (some 1)] I L (gG D) 0 0 post))))))) : xR d 96 es_96 7 [xr (some 1), xi u1, xi u2] [] I L (gG D) 0 0 post := xW_R (fun k => Nat.beq k 7 || Nat.beq k 16 || Nat.beq k 25 || Nat.beq k 34) 12 _ _ _ _ _ _ _ _ _ _ _ _ h
set_option maxRecDepth 8000 in
theorem sg_96_35 {d : Nat} {I : XI} {L : XL} {D : GD} {post : XQ}  {u1 : Int} {u2 : Int} (h : post none I L (gG D)) : xR d 96 es_96 35 [xr (some 1), xi u1, xi u2] [] I L (gG D) 0 0 post := xW_R (fun k => Nat.beq k 7 || Nat.beq k 16 || Nat.beq k 25 || Nat.beq k 34) 1 _ _ _ _ _ _ _ _ _ _ _ _ h
set_option maxRecDepth 8000 in
theorem sg_96_17 {d : Nat} {I : XI} {L : XL} {D : GD} {post : XQ}  {u1 : Int} {u2 : Int} {w0 : Int} (h : (((-2147483648 ≤ w0 ∧ w0 ≤ 2147483647) ∧ (-2147483648 ≤ (32 : Int) ∧ (32 : Int) ≤ 2147483647)) ∧ ((¬ w0 = (32 : Int) → xR d 96 es_96 25 [xr (some 1), xi u1, xi u2] [xi u1, xr (some 1)] I L (gG D) 0 0 post) ∧ (w0 = (32 : Int) → xR d 96 es_96 7 [xr (some 1), xi (u1 + (1 : Int)), xi (u2 + (1 : Int))] [] I L (gG D) 0 0 post)))) : xR d 96 es_96 17 [xr (some 1), xi u1, xi u2] [xi w0] I L (gG D) 0 0 post := xW_R (fun k => Nat.beq k 7 || Nat.beq k 16 || Nat.beq k 25 || Nat.beq k 34) 9 _ _ _ _ _ _ _ _ _ _ _ _ h
set_option maxRecDepth 8000 in
theorem sg_96_26 {d : Nat} {I : XI} {L : XL} {D : GD} {post : XQ}  {u1 : Int} {u2 : Int} {w0 : Int} (h : xR d 96 es_96 7 [xr (some 1), xi w0, xi (u2 + (1 : Int))] [] I L (gG D) 0 0 post) : xR d 96 es_96 26 [xr (some 1), xi u1, xi u2] [xi w0] I L (gG D) 0 0 post := xW_R (fun k => Nat.beq k 7 || Nat.beq k 16 || Nat.beq k 25 || Nat.beq k 34) 3 _ _ _ _ _ _ _ _ _ _ _ _ h
set_option maxRecDepth 8000 in
theorem b_96 {d : Nat} {I : XI} {L : XL} {D : GD} {post : XQ} {cn : Int} {Pc Pl Nm : Int → Int}  {fm : Int} {i0 : Int} (hd : 11 ≤ d) (h : (((-2147483648 ≤ i0 ∧ i0 ≤ 2147483647)) ∧ (((400 : Int) ≤ i0 → ((0 ≤ cn ∧ cn ≤ 400) ∧ post none (xsc (xsc (xsc (xsc I 1 (xup (I 1) (4 : Int) (cn + 1))) 3 (xup Pc cn (-1 : Int))) 4 (xup Pl cn (I 1 (6 : Int)))) 5 (xup Nm cn (-1 : Int))) L (gG D))) ∧ (i0 < (400 : Int) → (((-2147483648 ≤ fm ∧ fm ≤ 2147483647) ∧ (-2147483648 ≤ (I 1 (6 : Int)) ∧ (I 1 (6 : Int)) ≤ 2147483647)) ∧ (((I 1 (6 : Int)) ≤ fm → ((0 ≤ cn ∧ cn ≤ 400) ∧ post none (xsc (xsc (xsc (xsc I 1 (xup (I 1) (4 : Int) (cn + 1))) 3 (xup Pc cn (-1 : Int))) 4 (xup Pl cn (I 1 (6 : Int)))) 5 (xup Nm cn (-1 : Int))) L (gG D))) ∧ (fm < (I 1 (6 : Int)) → ((TPO (I 2) (I 1 (6 : Int)) ∧ (0 ≤ fm ∧ fm ≤ 2000)) ∧ (((-2147483648 ≤ (tc (I 2) (I 1 (6 : Int)) fm) ∧ (tc (I 2) (I 1 (6 : Int)) fm) ≤ 2147483647)) ∧ ((¬ (tc (I 2) (I 1 (6 : Int)) fm) = (32 : Int) → ((TPO (I 2) (I 1 (6 : Int)) ∧ (0 ≤ fm ∧ fm < I 1 (6 : Int)) ∧ (0 ≤ cn ∧ cn ≤ 400)) ∧ xR d 96 es_96 7 [xr (some 1), xi (tke (I 2) (I 1 (6 : Int)) fm), xi (i0 + (1 : Int))] [] (xsc (xsc (xsc (xsc I 1 (xup (I 1) (4 : Int) (cn + 1))) 3 (xup Pc cn (tkk (I 2) (I 1 (6 : Int)) fm))) 4 (xup Pl cn fm)) 5 (xup Nm cn (tkv (I 2) (I 1 (6 : Int)) fm))) L (gG D) 0 0 post)) ∧ ((tc (I 2) (I 1 (6 : Int)) fm) = (32 : Int) → xR d 96 es_96 7 [xr (some 1), xi (fm + (1 : Int)), xi (i0 + (1 : Int))] [] (xsc (xsc (xsc (xsc I 1 (xup (I 1) (4 : Int) cn)) 3 Pc) 4 Pl) 5 Nm) L (gG D) 0 0 post))))))))))) : xR d 96 es_96 7 [xr (some 1), xi fm, xi i0] [] (xsc (xsc (xsc (xsc I 1 (xup (I 1) (4 : Int) cn)) 3 Pc) 4 Pl) 5 Nm) L (gG D) 0 0 post := sg_96_7  (⟨⟨h.1, (by decide)⟩, ⟨fun q3568 => (xR_cF rfl rfl rfl (c_101 (h.2.1 q3568).1) (by omega) (sg_96_35  (xpost (h.2.1 q3568).2 (funext fun i => (xpt rfl (fun h5_ => (xpt rfl (fun h4_ => (xpt rfl (fun h3_ => (xpt (show (xup (xup (I 1) (4 : Int) cn) (4 : Int) (cn + 1)) = (xup (I 1) (4 : Int) (cn + 1)) from by funext j; simp only [xup]; (repeat' split) <;> first | rfl | omega) (fun h1_ => (by simp only [xsc_ne _ _ h1_, xwr_ne _ _ _ h1_, xsc_ne _ _ h3_, xwr_ne _ _ _ h3_, xsc_ne _ _ h4_, xwr_ne _ _ _ h4_, xsc_ne _ _ h5_, xwr_ne _ _ _ h5_])))))))))) rfl))), fun q3569 => ⟨⟨(h.2.2 q3569).1.1, (h.2.2 q3569).1.2⟩, ⟨fun q3566 => (xR_cF rfl rfl rfl (c_101 ((h.2.2 q3569).2.1 q3566).1) (by omega) (sg_96_35  (xpost ((h.2.2 q3569).2.1 q3566).2 (funext fun i => (xpt rfl (fun h5_ => (xpt rfl (fun h4_ => (xpt rfl (fun h3_ => (xpt (show (xup (xup (I 1) (4 : Int) cn) (4 : Int) (cn + 1)) = (xup (I 1) (4 : Int) (cn + 1)) from by funext j; simp only [xup]; (repeat' split) <;> first | rfl | omega) (fun h1_ => (by simp only [xsc_ne _ _ h1_, xwr_ne _ _ _ h1_, xsc_ne _ _ h3_, xwr_ne _ _ _ h3_, xsc_ne _ _ h4_, xwr_ne _ _ _ h4_, xsc_ne _ _ h5_, xwr_ne _ _ _ h5_])))))))))) rfl))), fun q3567 => (xR_cF rfl rfl rfl (c_102 ((h.2.2 q3569).2.2 q3567).1) (by omega) (sg_96_17  ⟨⟨((h.2.2 q3569).2.2 q3567).2.1, (by decide)⟩, ⟨fun q3564 => (xR_cF rfl rfl rfl (c_97 (((h.2.2 q3569).2.2 q3567).2.2.1 q3564).1) (by omega) (sg_96_26  (xR_memc (((h.2.2 q3569).2.2 q3567).2.2.1 q3564).2 (funext fun i => (xpt rfl (fun h5_ => (xpt rfl (fun h4_ => (xpt rfl (fun h3_ => (xpt (show (xup (xup (I 1) (4 : Int) cn) (4 : Int) (cn + 1)) = (xup (I 1) (4 : Int) (cn + 1)) from by funext j; simp only [xup]; (repeat' split) <;> first | rfl | omega) (fun h1_ => (by simp only [xsc_ne _ _ h1_, xwr_ne _ _ _ h1_, xsc_ne _ _ h3_, xwr_ne _ _ _ h3_, xsc_ne _ _ h4_, xwr_ne _ _ _ h4_, xsc_ne _ _ h5_, xwr_ne _ _ _ h5_])))))))))) rfl))), fun q3565 => (((h.2.2 q3569).2.2 q3567).2.2.2 q3565)⟩⟩))⟩⟩⟩⟩)
theorem c_96 {I : XI} {L : XL} {D : GD}    (h : TPO (I 2) (I 1 (6 : Int))) : xM 11 96 [xr (some 1)] I L (gG D) (0, 0) (fun r2 I2 L2 G2 => ∃ (cn9 : Int) (Pc9 : Int → Int) (Pl9 : Int → Int) (Nm9 : Int → Int), TKS (I 2) (I 1 (6 : Int)) Pc9 Pl9 Nm9 cn9 ∧ r2 = none ∧ I2 = (xsc (xsc (xsc (xsc I 1 (xup (I 1) (4 : Int) cn9)) 3 Pc9) 4 Pl9) 5 Nm9) ∧ L2 = L ∧ G2 = (gG D)) := by
  intro d hd
  have hT := h
  have hT1 := hT.1
  refine w_96 (by omega) ?_
  have key : ∀ (r : Nat) (fr i0 cn : Int) (Pc Pl Nm : Int → Int), (I 1 6 - fr).toNat = r → (0 ≤ i0 ∧ i0 ≤ fr) → TKP (I 2) (I 1 6) Pc Pl Nm cn fr → xR d 96 es_96 7 [xr (some 1), xi fr, xi i0] [] (xsc (xsc (xsc (xsc I 1 (xup (I 1) (4 : Int) cn)) 3 Pc) 4 Pl) 5 Nm) L (gG D) 0 0 (fun r2 I2 L2 G2 => ∃ (cn9 : Int) (Pc9 : Int → Int) (Pl9 : Int → Int) (Nm9 : Int → Int), TKS (I 2) (I 1 (6 : Int)) Pc9 Pl9 Nm9 cn9 ∧ r2 = none ∧ I2 = (xsc (xsc (xsc (xsc I 1 (xup (I 1) (4 : Int) cn9)) 3 Pc9) 4 Pl9) 5 Nm9) ∧ L2 = L ∧ G2 = (gG D)) := by
    intro r
    induction r using Nat.strongRecOn with
    | _ r ih =>
    intro fr i0 cn Pc Pl Nm hr hi hP
    have p1 := hP.1
    have p2 := hP.2.1
    by_cases hf : fr < I 1 6
    · have htr := tc_rg hT fr
      have hbl := tc_bl hT (p := fr) (by omega)
      refine b_96 (by omega) ?_
      repeat' first | (with_reducible intro _) | (with_reducible refine And.intro ?_ ?_)
      all_goals first | omega | exact ⟨hT, by omega⟩ | exact ⟨hT, by omega, by omega⟩ | skip
      all_goals first
        | (have q := hbl.mp (by assumption)
           exact ih (I 1 6 - (fr + 1)).toNat (by omega) _ _ _ _ _ _ rfl (by omega) (TKP_bl hP q))
        | (have q : ¬ (fr < I 1 6 ∧ I 2 fr = 32) := fun r => absurd (hbl.mpr r) (by assumption)
           have hk := tke_in (b := I 2) hf
           exact ih (I 1 6 - tke (I 2) (I 1 6) fr).toNat (by omega) _ _ _ _ _ _ rfl (by omega) (TKP_add hP (sk_neg q) (by omega) rfl))
    · have hE := TKP_end hT1.2 hP (by omega)
      refine b_96 (by omega) ?_
      repeat' first | (with_reducible intro _) | (with_reducible refine And.intro ?_ ?_)
      all_goals first | omega | exact ⟨hT, by omega⟩ | skip
      all_goals exact ⟨_, _, _, _, hE, rfl, rfl, rfl, rfl⟩
  have k0 := key _ 0 0 0 (I 3) (I 4) (I 5) rfl (by omega) ⟨by omega, by omega, fun _ => rfl, fun q => by omega, fun i i0 i1 => by omega⟩
  exact xR_memc k0 (by (funext i; by_cases h1 : i = 1; (subst h1; first | rfl | exact (xcp_zero _ _ _ _).symm | exact (xup_self _ _).symm | exact (xup_self2 _ _ _).symm | exact (xup_self3 _ _ _ _).symm | exact xup_self _ _); by_cases h3 : i = 3; (subst h3; first | rfl | exact (xcp_zero _ _ _ _).symm | exact (xup_self _ _).symm | exact (xup_self2 _ _ _).symm | exact (xup_self3 _ _ _ _).symm | exact xup_self _ _); by_cases h4 : i = 4; (subst h4; first | rfl | exact (xcp_zero _ _ _ _).symm | exact (xup_self _ _).symm | exact (xup_self2 _ _ _).symm | exact (xup_self3 _ _ _ _).symm | exact xup_self _ _); by_cases h5 : i = 5; (subst h5; first | rfl | exact (xcp_zero _ _ _ _).symm | exact (xup_self _ _).symm | exact (xup_self2 _ _ _).symm | exact (xup_self3 _ _ _ _).symm | exact xup_self _ _); first | rfl | simp only [xsc_ne _ _ h1, xsc_ne _ _ h3, xsc_ne _ _ h4, xsc_ne _ _ h5])) rfl
set_option maxRecDepth 8000 in
theorem sg_94_0 {d : Nat} {I : XI} {L : XL} {D : GD} {post : XQ}   (h : (((-2147483648 ≤ ((I 1 (5 : Int)) + (1 : Int)) ∧ ((I 1 (5 : Int)) + (1 : Int)) ≤ 2147483647) ∧ (-2147483648 ≤ (I 1 (4 : Int)) ∧ (I 1 (4 : Int)) ≤ 2147483647)) ∧ (((I 1 (4 : Int)) ≤ ((I 1 (5 : Int)) + (1 : Int)) → ((-2147483648 ≤ ((I 1 (4 : Int)) - (1 : Int)) ∧ ((I 1 (4 : Int)) - (1 : Int)) ≤ 2147483647) ∧ ((((I 1 (4 : Int)) - (1 : Int)) < 0 → post none (xwr I 1 (5 : Int) ((I 1 (4 : Int)) - (1 : Int))) L (gG D)) ∧ (0 ≤ ((I 1 (4 : Int)) - (1 : Int)) → (((-2147483648 ≤ ((I 1 (4 : Int)) - (1 : Int)) ∧ ((I 1 (4 : Int)) - (1 : Int)) ≤ 2147483647) ∧ (-2147483648 ≤ (400 : Int) ∧ (400 : Int) ≤ 2147483647)) ∧ (((400 : Int) < ((I 1 (4 : Int)) - (1 : Int)) → post none (xwr I 1 (5 : Int) ((I 1 (4 : Int)) - (1 : Int))) L (gG D)) ∧ (((I 1 (4 : Int)) - (1 : Int)) ≤ (400 : Int) → ((0 ≤ ((I 1 (4 : Int)) - (1 : Int)) ∧ ((I 1 (4 : Int)) - (1 : Int)) < (401 : Int)) ∧ ((0 ≤ ((I 1 (4 : Int)) - (1 : Int)) ∧ ((I 1 (4 : Int)) - (1 : Int)) < (401 : Int)) ∧ ((0 ≤ ((I 1 (4 : Int)) - (1 : Int)) ∧ ((I 1 (4 : Int)) - (1 : Int)) < (401 : Int)) ∧ post none (xwr (xwr (xwr (xwr I 1 (5 : Int) ((I 1 (4 : Int)) - (1 : Int))) 1 (7 : Int) (I 3 ((I 1 (4 : Int)) - (1 : Int)))) 1 (9 : Int) (I 4 ((I 1 (4 : Int)) - (1 : Int)))) 1 (8 : Int) (I 5 ((I 1 (4 : Int)) - (1 : Int)))) L (gG D))))))))))) ∧ (((I 1 (5 : Int)) + (1 : Int)) < (I 1 (4 : Int)) → ((-2147483648 ≤ ((I 1 (5 : Int)) + (1 : Int)) ∧ ((I 1 (5 : Int)) + (1 : Int)) ≤ 2147483647) ∧ ((((I 1 (5 : Int)) + (1 : Int)) < 0 → post none (xwr I 1 (5 : Int) ((I 1 (5 : Int)) + (1 : Int))) L (gG D)) ∧ (0 ≤ ((I 1 (5 : Int)) + (1 : Int)) → (((-2147483648 ≤ ((I 1 (5 : Int)) + (1 : Int)) ∧ ((I 1 (5 : Int)) + (1 : Int)) ≤ 2147483647) ∧ (-2147483648 ≤ (400 : Int) ∧ (400 : Int) ≤ 2147483647)) ∧ (((400 : Int) < ((I 1 (5 : Int)) + (1 : Int)) → post none (xwr I 1 (5 : Int) ((I 1 (5 : Int)) + (1 : Int))) L (gG D)) ∧ (((I 1 (5 : Int)) + (1 : Int)) ≤ (400 : Int) → ((0 ≤ ((I 1 (5 : Int)) + (1 : Int)) ∧ ((I 1 (5 : Int)) + (1 : Int)) < (401 : Int)) ∧ ((0 ≤ ((I 1 (5 : Int)) + (1 : Int)) ∧ ((I 1 (5 : Int)) + (1 : Int)) < (401 : Int)) ∧ ((0 ≤ ((I 1 (5 : Int)) + (1 : Int)) ∧ ((I 1 (5 : Int)) + (1 : Int)) < (401 : Int)) ∧ post none (xwr (xwr (xwr (xwr I 1 (5 : Int) ((I 1 (5 : Int)) + (1 : Int))) 1 (7 : Int) (I 3 ((I 1 (5 : Int)) + (1 : Int)))) 1 (9 : Int) (I 4 ((I 1 (5 : Int)) + (1 : Int)))) 1 (8 : Int) (I 5 ((I 1 (5 : Int)) + (1 : Int)))) L (gG D)))))))))))))) : xR d 94 es_94 0 [xr (some 1)] [] I L (gG D) 0 0 post := xW_R (fun k => false) 43 _ _ _ _ _ _ _ _ _ _ _ _ h
set_option maxRecDepth 8000 in
theorem w_94 {d : Nat} {I : XI} {L : XL} {D : GD} {post : XQ}    (hd : 0 ≤ d) (h : (((-2147483648 ≤ ((I 1 (5 : Int)) + (1 : Int)) ∧ ((I 1 (5 : Int)) + (1 : Int)) ≤ 2147483647) ∧ (-2147483648 ≤ (I 1 (4 : Int)) ∧ (I 1 (4 : Int)) ≤ 2147483647)) ∧ (((I 1 (4 : Int)) ≤ ((I 1 (5 : Int)) + (1 : Int)) → (((-2147483648 ≤ ((I 1 (4 : Int)) - (1 : Int)) ∧ ((I 1 (4 : Int)) - (1 : Int)) ≤ 2147483647)) ∧ ((((I 1 (4 : Int)) - (1 : Int)) < 0 → post none (xsc I 1 (xup (I 1) (5 : Int) ((I 1 (4 : Int)) - (1 : Int)))) L (gG D)) ∧ (0 ≤ ((I 1 (4 : Int)) - (1 : Int)) → ((((400 : Int) < ((I 1 (4 : Int)) - (1 : Int)) → post none (xsc I 1 (xup (I 1) (5 : Int) ((I 1 (4 : Int)) - (1 : Int)))) L (gG D)) ∧ (((I 1 (4 : Int)) - (1 : Int)) ≤ (400 : Int) → (((0 ≤ ((I 1 (4 : Int)) - (1 : Int)) ∧ ((I 1 (4 : Int)) - (1 : Int)) < (401 : Int))) ∧ post none (xsc I 1 (xup (xup (xup (xup (I 1) (5 : Int) ((I 1 (4 : Int)) - (1 : Int))) (7 : Int) (I 3 ((I 1 (4 : Int)) - (1 : Int)))) (8 : Int) (I 5 ((I 1 (4 : Int)) - (1 : Int)))) (9 : Int) (I 4 ((I 1 (4 : Int)) - (1 : Int))))) L (gG D))))))))) ∧ (((I 1 (5 : Int)) + (1 : Int)) < (I 1 (4 : Int)) → (((((I 1 (5 : Int)) + (1 : Int)) < 0 → post none (xsc I 1 (xup (I 1) (5 : Int) ((I 1 (5 : Int)) + (1 : Int)))) L (gG D)) ∧ (0 ≤ ((I 1 (5 : Int)) + (1 : Int)) → ((((400 : Int) < ((I 1 (5 : Int)) + (1 : Int)) → post none (xsc I 1 (xup (I 1) (5 : Int) ((I 1 (5 : Int)) + (1 : Int)))) L (gG D)) ∧ (((I 1 (5 : Int)) + (1 : Int)) ≤ (400 : Int) → (((0 ≤ ((I 1 (5 : Int)) + (1 : Int)) ∧ ((I 1 (5 : Int)) + (1 : Int)) < (401 : Int))) ∧ post none (xsc I 1 (xup (xup (xup (xup (I 1) (5 : Int) ((I 1 (5 : Int)) + (1 : Int))) (7 : Int) (I 3 ((I 1 (5 : Int)) + (1 : Int)))) (8 : Int) (I 5 ((I 1 (5 : Int)) + (1 : Int)))) (9 : Int) (I 4 ((I 1 (5 : Int)) + (1 : Int))))) L (gG D)))))))))))) : xR d 94 es_94 0 [xr (some 1)] [] I L (gG D) 0 0 post := sg_94_0  (⟨⟨h.1.1, h.1.2⟩, ⟨fun q3578 => ⟨(h.2.1 q3578).1, ⟨fun q3572 => ((h.2.1 q3578).2.1 q3572), fun q3573 => ⟨⟨(h.2.1 q3578).1, (by decide)⟩, ⟨fun q3570 => (((h.2.1 q3578).2.2 q3573).1 q3570), fun q3571 => ⟨(((h.2.1 q3578).2.2 q3573).2 q3571).1, ⟨(((h.2.1 q3578).2.2 q3573).2 q3571).1, ⟨(((h.2.1 q3578).2.2 q3573).2 q3571).1, (xpost (((h.2.1 q3578).2.2 q3573).2 q3571).2 (funext fun i => (xpt (show (xup (xup (xup (xup (I 1) (5 : Int) ((I 1 (4 : Int)) - (1 : Int))) (7 : Int) (I 3 ((I 1 (4 : Int)) - (1 : Int)))) (9 : Int) (I 4 ((I 1 (4 : Int)) - (1 : Int)))) (8 : Int) (I 5 ((I 1 (4 : Int)) - (1 : Int)))) = (xup (xup (xup (xup (I 1) (5 : Int) ((I 1 (4 : Int)) - (1 : Int))) (7 : Int) (I 3 ((I 1 (4 : Int)) - (1 : Int)))) (8 : Int) (I 5 ((I 1 (4 : Int)) - (1 : Int)))) (9 : Int) (I 4 ((I 1 (4 : Int)) - (1 : Int)))) from by funext j; simp only [xup]; (repeat' split) <;> first | rfl | omega) (fun h1_ => (by simp only [xsc_ne _ _ h1_, xwr_ne _ _ _ h1_])))) rfl)⟩⟩⟩⟩⟩⟩⟩, fun q3579 => ⟨h.1.1, ⟨fun q3576 => ((h.2.2 q3579).1 q3576), fun q3577 => ⟨⟨h.1.1, (by decide)⟩, ⟨fun q3574 => (((h.2.2 q3579).2 q3577).1 q3574), fun q3575 => ⟨(((h.2.2 q3579).2 q3577).2 q3575).1, ⟨(((h.2.2 q3579).2 q3577).2 q3575).1, ⟨(((h.2.2 q3579).2 q3577).2 q3575).1, (xpost (((h.2.2 q3579).2 q3577).2 q3575).2 (funext fun i => (xpt (show (xup (xup (xup (xup (I 1) (5 : Int) ((I 1 (5 : Int)) + (1 : Int))) (7 : Int) (I 3 ((I 1 (5 : Int)) + (1 : Int)))) (9 : Int) (I 4 ((I 1 (5 : Int)) + (1 : Int)))) (8 : Int) (I 5 ((I 1 (5 : Int)) + (1 : Int)))) = (xup (xup (xup (xup (I 1) (5 : Int) ((I 1 (5 : Int)) + (1 : Int))) (7 : Int) (I 3 ((I 1 (5 : Int)) + (1 : Int)))) (8 : Int) (I 5 ((I 1 (5 : Int)) + (1 : Int)))) (9 : Int) (I 4 ((I 1 (5 : Int)) + (1 : Int)))) from by funext j; simp only [xup]; (repeat' split) <;> first | rfl | omega) (fun h1_ => (by simp only [xsc_ne _ _ h1_, xwr_ne _ _ _ h1_])))) rfl)⟩⟩⟩⟩⟩⟩⟩⟩⟩)
theorem TXT.nx {T b Pc Pl Nm : Int → Int} (h : TXT T b Pc Pl Nm) : (0 ≤ T 9 ∧ T 9 ≤ T 6) ∧ (T 5 + 1 < T 4 → Pl (T 5 + 1) = nxt b (T 6) (T 9)) ∧ (¬ T 5 + 1 < T 4 → Pl (T 4 - 1) = nxt b (T 6) (T 9)) := by
  obtain ⟨h1, h2, h3, h4, h5, h6⟩ := h
  have hk := h2.2.2.2 (T 5) h3.1 h3.2
  rw [h4] at hk
  refine ⟨hk.1, hk.2.2.2, fun q => ?_⟩
  have e : T 9 = T 6 := by rw [← h4, show T 5 = T 4 - 1 by omega]; exact h2.2.2.1
  rw [h2.2.2.1, e]
  have e3 : tke b (T 6) (T 6) = T 6 := if_pos (by omega)
  unfold nxt
  rw [e3]
  exact (sk_neg (by omega)).symm
theorem c_94 {I : XI} {L : XL} {D : GD}    (h : TXT (I 1) (I 2) (I 3) (I 4) (I 5)) : xM 0 94 [xr (some 1)] I L (gG D) (0, 0) (fun r2 I2 L2 G2 => ∃ (at9 : Int), TXT (xup (xup (xup (xup (I 1) (5 : Int) at9) (7 : Int) (tkk (I 2) (I 1 (6 : Int)) (nxt (I 2) (I 1 (6 : Int)) (I 1 (9 : Int))))) (8 : Int) (tkv (I 2) (I 1 (6 : Int)) (nxt (I 2) (I 1 (6 : Int)) (I 1 (9 : Int))))) (9 : Int) (nxt (I 2) (I 1 (6 : Int)) (I 1 (9 : Int)))) (I 2) (I 3) (I 4) (I 5) ∧ r2 = none ∧ I2 = (xsc I 1 (xup (xup (xup (xup (I 1) (5 : Int) at9) (7 : Int) (tkk (I 2) (I 1 (6 : Int)) (nxt (I 2) (I 1 (6 : Int)) (I 1 (9 : Int))))) (8 : Int) (tkv (I 2) (I 1 (6 : Int)) (nxt (I 2) (I 1 (6 : Int)) (I 1 (9 : Int))))) (9 : Int) (nxt (I 2) (I 1 (6 : Int)) (I 1 (9 : Int))))) ∧ L2 = L ∧ G2 = (gG D)) := by
  intro d hd
  have hX := h
  obtain ⟨hT, hK, h3, h4, h5, h6⟩ := h
  obtain ⟨n1, n2, n3⟩ := hX.nx
  have hT1 := hT.1
  have hk1 := hK.1
  have hn := nxt_in (b := I 2) n1.2
  refine w_94 (by omega) ?_
  by_cases q : I 1 5 + 1 < I 1 4
  · have e := n2 q
    have hh := hK.2.2.2 (I 1 5 + 1) (by omega) q
    rw [e] at hh
    repeat' first | (with_reducible intro _) | (with_reducible refine And.intro ?_ ?_)
    all_goals first | omega | skip
    rw [e, hh.2.1, hh.2.2.1]
    exact ⟨_, ⟨hT, hK, ⟨(by omega : 0 ≤ I 1 5 + 1), q⟩, e, rfl, rfl⟩, rfl, rfl, rfl, rfl⟩
  · have e := n3 q
    have hh := hK.2.2.2 (I 1 4 - 1) (by omega) (by omega)
    rw [e] at hh
    repeat' first | (with_reducible intro _) | (with_reducible refine And.intro ?_ ?_)
    all_goals first | omega | skip
    rw [e, hh.2.1, hh.2.2.1]
    exact ⟨_, ⟨hT, hK, ⟨(by omega : 0 ≤ I 1 4 - 1), (by omega : I 1 4 - 1 < I 1 4)⟩, e, rfl, rfl⟩, rfl, rfl, rfl, rfl⟩
set_option maxRecDepth 8000 in
theorem sg_94_0_0 {d : Nat} {I : XI} {L : XL} {D : GD} {post : XQ}   (h : (((-2147483648 ≤ ((I 1 (5 : Int)) + (1 : Int)) ∧ ((I 1 (5 : Int)) + (1 : Int)) ≤ 2147483647) ∧ (-2147483648 ≤ (I 1 (4 : Int)) ∧ (I 1 (4 : Int)) ≤ 2147483647)) ∧ (((I 1 (4 : Int)) ≤ ((I 1 (5 : Int)) + (1 : Int)) → ((-2147483648 ≤ ((I 1 (4 : Int)) - (1 : Int)) ∧ ((I 1 (4 : Int)) - (1 : Int)) ≤ 2147483647) ∧ ((((I 1 (4 : Int)) - (1 : Int)) < 0 → post none (xwr I 1 (5 : Int) ((I 1 (4 : Int)) - (1 : Int))) L (gG D)) ∧ (0 ≤ ((I 1 (4 : Int)) - (1 : Int)) → (((-2147483648 ≤ ((I 1 (4 : Int)) - (1 : Int)) ∧ ((I 1 (4 : Int)) - (1 : Int)) ≤ 2147483647) ∧ (-2147483648 ≤ (400 : Int) ∧ (400 : Int) ≤ 2147483647)) ∧ (((400 : Int) < ((I 1 (4 : Int)) - (1 : Int)) → post none (xwr I 1 (5 : Int) ((I 1 (4 : Int)) - (1 : Int))) L (gG D)) ∧ (((I 1 (4 : Int)) - (1 : Int)) ≤ (400 : Int) → ((0 ≤ ((I 1 (4 : Int)) - (1 : Int)) ∧ ((I 1 (4 : Int)) - (1 : Int)) < (401 : Int)) ∧ ((0 ≤ ((I 1 (4 : Int)) - (1 : Int)) ∧ ((I 1 (4 : Int)) - (1 : Int)) < (401 : Int)) ∧ ((0 ≤ ((I 1 (4 : Int)) - (1 : Int)) ∧ ((I 1 (4 : Int)) - (1 : Int)) < (401 : Int)) ∧ post none (xwr (xwr (xwr (xwr I 1 (5 : Int) ((I 1 (4 : Int)) - (1 : Int))) 1 (7 : Int) (I 3 ((I 1 (4 : Int)) - (1 : Int)))) 1 (9 : Int) (I 4 ((I 1 (4 : Int)) - (1 : Int)))) 1 (8 : Int) (I 5 ((I 1 (4 : Int)) - (1 : Int)))) L (gG D))))))))))) ∧ (((I 1 (5 : Int)) + (1 : Int)) < (I 1 (4 : Int)) → ((-2147483648 ≤ ((I 1 (5 : Int)) + (1 : Int)) ∧ ((I 1 (5 : Int)) + (1 : Int)) ≤ 2147483647) ∧ ((((I 1 (5 : Int)) + (1 : Int)) < 0 → post none (xwr I 1 (5 : Int) ((I 1 (5 : Int)) + (1 : Int))) L (gG D)) ∧ (0 ≤ ((I 1 (5 : Int)) + (1 : Int)) → (((-2147483648 ≤ ((I 1 (5 : Int)) + (1 : Int)) ∧ ((I 1 (5 : Int)) + (1 : Int)) ≤ 2147483647) ∧ (-2147483648 ≤ (400 : Int) ∧ (400 : Int) ≤ 2147483647)) ∧ (((400 : Int) < ((I 1 (5 : Int)) + (1 : Int)) → post none (xwr I 1 (5 : Int) ((I 1 (5 : Int)) + (1 : Int))) L (gG D)) ∧ (((I 1 (5 : Int)) + (1 : Int)) ≤ (400 : Int) → ((0 ≤ ((I 1 (5 : Int)) + (1 : Int)) ∧ ((I 1 (5 : Int)) + (1 : Int)) < (401 : Int)) ∧ ((0 ≤ ((I 1 (5 : Int)) + (1 : Int)) ∧ ((I 1 (5 : Int)) + (1 : Int)) < (401 : Int)) ∧ ((0 ≤ ((I 1 (5 : Int)) + (1 : Int)) ∧ ((I 1 (5 : Int)) + (1 : Int)) < (401 : Int)) ∧ post none (xwr (xwr (xwr (xwr I 1 (5 : Int) ((I 1 (5 : Int)) + (1 : Int))) 1 (7 : Int) (I 3 ((I 1 (5 : Int)) + (1 : Int)))) 1 (9 : Int) (I 4 ((I 1 (5 : Int)) + (1 : Int)))) 1 (8 : Int) (I 5 ((I 1 (5 : Int)) + (1 : Int)))) L (gG D)))))))))))))) : xR d 94 es_94 0 [xr (some 1)] [] I L (gG D) 0 0 post := xW_R (fun k => false) 43 _ _ _ _ _ _ _ _ _ _ _ _ h
set_option maxRecDepth 8000 in
theorem w_94_0 {d : Nat} {I : XI} {L : XL} {D : GD} {post : XQ}    (hd : 0 ≤ d) (h : (((-2147483648 ≤ ((I 1 (5 : Int)) + (1 : Int)) ∧ ((I 1 (5 : Int)) + (1 : Int)) ≤ 2147483647) ∧ (-2147483648 ≤ (I 1 (4 : Int)) ∧ (I 1 (4 : Int)) ≤ 2147483647)) ∧ (((I 1 (4 : Int)) ≤ ((I 1 (5 : Int)) + (1 : Int)) → (((-2147483648 ≤ ((I 1 (4 : Int)) - (1 : Int)) ∧ ((I 1 (4 : Int)) - (1 : Int)) ≤ 2147483647)) ∧ ((((I 1 (4 : Int)) - (1 : Int)) < 0 → post none (xsc I 1 (xup (I 1) (5 : Int) ((I 1 (4 : Int)) - (1 : Int)))) L (gG D)) ∧ (0 ≤ ((I 1 (4 : Int)) - (1 : Int)) → ((((400 : Int) < ((I 1 (4 : Int)) - (1 : Int)) → post none (xsc I 1 (xup (I 1) (5 : Int) ((I 1 (4 : Int)) - (1 : Int)))) L (gG D)) ∧ (((I 1 (4 : Int)) - (1 : Int)) ≤ (400 : Int) → (((0 ≤ ((I 1 (4 : Int)) - (1 : Int)) ∧ ((I 1 (4 : Int)) - (1 : Int)) < (401 : Int))) ∧ post none (xsc I 1 (xup (xup (xup (xup (I 1) (5 : Int) ((I 1 (4 : Int)) - (1 : Int))) (7 : Int) (I 3 ((I 1 (4 : Int)) - (1 : Int)))) (8 : Int) (I 5 ((I 1 (4 : Int)) - (1 : Int)))) (9 : Int) (I 4 ((I 1 (4 : Int)) - (1 : Int))))) L (gG D))))))))) ∧ (((I 1 (5 : Int)) + (1 : Int)) < (I 1 (4 : Int)) → (((((I 1 (5 : Int)) + (1 : Int)) < 0 → post none (xsc I 1 (xup (I 1) (5 : Int) ((I 1 (5 : Int)) + (1 : Int)))) L (gG D)) ∧ (0 ≤ ((I 1 (5 : Int)) + (1 : Int)) → ((((400 : Int) < ((I 1 (5 : Int)) + (1 : Int)) → post none (xsc I 1 (xup (I 1) (5 : Int) ((I 1 (5 : Int)) + (1 : Int)))) L (gG D)) ∧ (((I 1 (5 : Int)) + (1 : Int)) ≤ (400 : Int) → (((0 ≤ ((I 1 (5 : Int)) + (1 : Int)) ∧ ((I 1 (5 : Int)) + (1 : Int)) < (401 : Int))) ∧ post none (xsc I 1 (xup (xup (xup (xup (I 1) (5 : Int) ((I 1 (5 : Int)) + (1 : Int))) (7 : Int) (I 3 ((I 1 (5 : Int)) + (1 : Int)))) (8 : Int) (I 5 ((I 1 (5 : Int)) + (1 : Int)))) (9 : Int) (I 4 ((I 1 (5 : Int)) + (1 : Int))))) L (gG D)))))))))))) : xR d 94 es_94 0 [xr (some 1)] [] I L (gG D) 0 0 post := sg_94_0_0  (⟨⟨h.1.1, h.1.2⟩, ⟨fun q3588 => ⟨(h.2.1 q3588).1, ⟨fun q3582 => ((h.2.1 q3588).2.1 q3582), fun q3583 => ⟨⟨(h.2.1 q3588).1, (by decide)⟩, ⟨fun q3580 => (((h.2.1 q3588).2.2 q3583).1 q3580), fun q3581 => ⟨(((h.2.1 q3588).2.2 q3583).2 q3581).1, ⟨(((h.2.1 q3588).2.2 q3583).2 q3581).1, ⟨(((h.2.1 q3588).2.2 q3583).2 q3581).1, (xpost (((h.2.1 q3588).2.2 q3583).2 q3581).2 (funext fun i => (xpt (show (xup (xup (xup (xup (I 1) (5 : Int) ((I 1 (4 : Int)) - (1 : Int))) (7 : Int) (I 3 ((I 1 (4 : Int)) - (1 : Int)))) (9 : Int) (I 4 ((I 1 (4 : Int)) - (1 : Int)))) (8 : Int) (I 5 ((I 1 (4 : Int)) - (1 : Int)))) = (xup (xup (xup (xup (I 1) (5 : Int) ((I 1 (4 : Int)) - (1 : Int))) (7 : Int) (I 3 ((I 1 (4 : Int)) - (1 : Int)))) (8 : Int) (I 5 ((I 1 (4 : Int)) - (1 : Int)))) (9 : Int) (I 4 ((I 1 (4 : Int)) - (1 : Int)))) from by funext j; simp only [xup]; (repeat' split) <;> first | rfl | omega) (fun h1_ => (by simp only [xsc_ne _ _ h1_, xwr_ne _ _ _ h1_])))) rfl)⟩⟩⟩⟩⟩⟩⟩, fun q3589 => ⟨h.1.1, ⟨fun q3586 => ((h.2.2 q3589).1 q3586), fun q3587 => ⟨⟨h.1.1, (by decide)⟩, ⟨fun q3584 => (((h.2.2 q3589).2 q3587).1 q3584), fun q3585 => ⟨(((h.2.2 q3589).2 q3587).2 q3585).1, ⟨(((h.2.2 q3589).2 q3587).2 q3585).1, ⟨(((h.2.2 q3589).2 q3587).2 q3585).1, (xpost (((h.2.2 q3589).2 q3587).2 q3585).2 (funext fun i => (xpt (show (xup (xup (xup (xup (I 1) (5 : Int) ((I 1 (5 : Int)) + (1 : Int))) (7 : Int) (I 3 ((I 1 (5 : Int)) + (1 : Int)))) (9 : Int) (I 4 ((I 1 (5 : Int)) + (1 : Int)))) (8 : Int) (I 5 ((I 1 (5 : Int)) + (1 : Int)))) = (xup (xup (xup (xup (I 1) (5 : Int) ((I 1 (5 : Int)) + (1 : Int))) (7 : Int) (I 3 ((I 1 (5 : Int)) + (1 : Int)))) (8 : Int) (I 5 ((I 1 (5 : Int)) + (1 : Int)))) (9 : Int) (I 4 ((I 1 (5 : Int)) + (1 : Int)))) from by funext j; simp only [xup]; (repeat' split) <;> first | rfl | omega) (fun h1_ => (by simp only [xsc_ne _ _ h1_, xwr_ne _ _ _ h1_])))) rfl)⟩⟩⟩⟩⟩⟩⟩⟩⟩)
theorem c_94_0 {I : XI} {L : XL} {D : GD}    (h : (TPO (I 2) (I 1 (6 : Int)) ∧ TKS (I 2) (I 1 (6 : Int)) (I 3) (I 4) (I 5) (I 1 (4 : Int)) ∧ I 1 (5 : Int) = -1)) : xM 0 94 [xr (some 1)] I L (gG D) (0, 0) (xD none (xsc I 1 (xup (xup (xup (xup (I 1) (5 : Int) 0) (7 : Int) (tkk (I 2) (I 1 (6 : Int)) (sk (I 2) (I 1 (6 : Int)) 0))) (8 : Int) (tkv (I 2) (I 1 (6 : Int)) (sk (I 2) (I 1 (6 : Int)) 0))) (9 : Int) (sk (I 2) (I 1 (6 : Int)) 0))) L (gG D)) := by
  intro d hd
  obtain ⟨hT, hK, h3⟩ := h
  have hT1 := hT.1
  have hk1 := hK.1
  have hh := hK.2.2.2 0 (by omega) (by omega)
  have e0 := hK.2.1
  rw [e0] at hh
  refine w_94_0 (by omega) ?_
  rw [h3]
  repeat' first | (with_reducible intro _) | (with_reducible refine And.intro ?_ ?_)
  all_goals first | omega | skip
  rw [show (-1 : Int) + 1 = 0 by omega, e0, hh.2.1, hh.2.2.1]
  exact xD_in
set_option maxRecDepth 8000 in
theorem sg_93_0_0 {d : Nat} {I : XI} {L : XL} {D : GD} {post : XQ}   (h : xR d 93 es_93 1 [xr (some 1)] [xr (some 1)] I L (gG D) 0 0 post) : xR d 93 es_93 0 [xr (some 1)] [] I L (gG D) 0 0 post := xW_R (fun k => Nat.beq k 1 || Nat.beq k 9) 1 _ _ _ _ _ _ _ _ _ _ _ _ h
set_option maxRecDepth 8000 in
theorem sg_93_2_0 {d : Nat} {I : XI} {L : XL} {D : GD} {post : XQ}   (h : xR d 93 es_93 9 [xr (some 1)] [xr (some 1)] (xwr (xwr I 1 (5 : Int) (-1 : Int)) 1 (10 : Int) (0 : Int)) L (gG D) 0 0 post) : xR d 93 es_93 2 [xr (some 1)] [] I L (gG D) 0 0 post := xW_R (fun k => Nat.beq k 1 || Nat.beq k 9) 7 _ _ _ _ _ _ _ _ _ _ _ _ h
set_option maxRecDepth 8000 in
theorem sg_93_10_0 {d : Nat} {I : XI} {L : XL} {D : GD} {post : XQ}   (h : post none I L (gG D)) : xR d 93 es_93 10 [xr (some 1)] [] I L (gG D) 0 0 post := xW_R (fun k => Nat.beq k 1 || Nat.beq k 9) 1 _ _ _ _ _ _ _ _ _ _ _ _ h
set_option maxRecDepth 8000 in
theorem w_93_0 {d : Nat} {I : XI} {L : XL} {D : GD} {post : XQ}    (hd : 12 ≤ d) (h : (TPO (I 2) (I 1 (6 : Int)) ∧ (∀ (e3590 : Int) (e3591 : Int → Int) (e3592 : Int → Int) (e3593 : Int → Int), (TKS (I 2) (I 1 (6 : Int)) e3591 e3592 e3593 e3590 → ((TPO (I 2) (I 1 (6 : Int)) ∧ TKS (I 2) (I 1 (6 : Int)) e3591 e3592 e3593 (e3590) ∧ (-1 : Int) = -1) ∧ post none (xsc (xsc (xsc (xsc I 1 (xup (xup (xup (xup (xup (xup (I 1) (4 : Int) e3590) (5 : Int) 0) (7 : Int) (tkk (I 2) (I 1 (6 : Int)) (sk (I 2) (I 1 (6 : Int)) 0))) (8 : Int) (tkv (I 2) (I 1 (6 : Int)) (sk (I 2) (I 1 (6 : Int)) 0))) (9 : Int) (sk (I 2) (I 1 (6 : Int)) 0)) (10 : Int) (0 : Int))) 3 e3591) 4 e3592) 5 e3593) L (gG D)))))) : xR d 93 es_93 0 [xr (some 1)] [] I L (gG D) 0 0 post := sg_93_0_0  ((xR_cQ rfl rfl rfl (c_96 h.1) (by omega) (fun _ _ _ _ hx3594 => by obtain ⟨e3590, e3591, e3592, e3593, hp3595, rfl, rfl, rfl, rfl⟩ := hx3594; exact (sg_93_2_0  (xR_cF rfl rfl rfl (c_94_0 (h.2 e3590 e3591 e3592 e3593 hp3595).1) (by omega) (sg_93_10_0  (xpost (h.2 e3590 e3591 e3592 e3593 hp3595).2 (funext fun i => (xpt rfl (fun h5_ => (xpt rfl (fun h4_ => (xpt rfl (fun h3_ => (xpt (show (xup (xup (xup (xup (xup (xup (xup (I 1) (4 : Int) e3590) (5 : Int) (-1 : Int)) (10 : Int) (0 : Int)) (5 : Int) 0) (7 : Int) (tkk (I 2) (I 1 (6 : Int)) (sk (I 2) (I 1 (6 : Int)) 0))) (8 : Int) (tkv (I 2) (I 1 (6 : Int)) (sk (I 2) (I 1 (6 : Int)) 0))) (9 : Int) (sk (I 2) (I 1 (6 : Int)) 0)) = (xup (xup (xup (xup (xup (xup (I 1) (4 : Int) e3590) (5 : Int) 0) (7 : Int) (tkk (I 2) (I 1 (6 : Int)) (sk (I 2) (I 1 (6 : Int)) 0))) (8 : Int) (tkv (I 2) (I 1 (6 : Int)) (sk (I 2) (I 1 (6 : Int)) 0))) (9 : Int) (sk (I 2) (I 1 (6 : Int)) 0)) (10 : Int) (0 : Int)) from by funext j; simp only [xup]; (repeat' split) <;> first | rfl | omega) (fun h1_ => (by simp only [xsc_ne _ _ h1_, xwr_ne _ _ _ h1_, xsc_ne _ _ h3_, xwr_ne _ _ _ h3_, xsc_ne _ _ h4_, xwr_ne _ _ _ h4_, xsc_ne _ _ h5_, xwr_ne _ _ _ h5_])))))))))) rfl)))))))
theorem c_93 {I : XI} {L : XL} {D : GD}    (h : TPO (I 2) (I 1 (6 : Int))) : xM 12 93 [xr (some 1)] I L (gG D) (0, 0) (fun r2 I2 L2 G2 => ∃ (cn9 : Int) (Pc9 : Int → Int) (Pl9 : Int → Int) (Nm9 : Int → Int), TXT (xup (xup (xup (xup (xup (xup (I 1) (4 : Int) cn9) (5 : Int) 0) (7 : Int) (tkk (I 2) (I 1 (6 : Int)) (sk (I 2) (I 1 (6 : Int)) 0))) (8 : Int) (tkv (I 2) (I 1 (6 : Int)) (sk (I 2) (I 1 (6 : Int)) 0))) (9 : Int) (sk (I 2) (I 1 (6 : Int)) 0)) (10 : Int) 0) (I 2) Pc9 Pl9 Nm9 ∧ r2 = none ∧ I2 = (xsc (xsc (xsc (xsc I 1 (xup (xup (xup (xup (xup (xup (I 1) (4 : Int) cn9) (5 : Int) 0) (7 : Int) (tkk (I 2) (I 1 (6 : Int)) (sk (I 2) (I 1 (6 : Int)) 0))) (8 : Int) (tkv (I 2) (I 1 (6 : Int)) (sk (I 2) (I 1 (6 : Int)) 0))) (9 : Int) (sk (I 2) (I 1 (6 : Int)) 0)) (10 : Int) 0)) 3 Pc9) 4 Pl9) 5 Nm9) ∧ L2 = L ∧ G2 = (gG D)) := by
  intro d hd
  have hT := h
  have hT1 := hT.1
  refine w_93_0 (by omega) ?_
  refine ⟨hT, fun e1 e2 e3 e4 hK => ⟨⟨hT, hK, (by first | rfl | trivial)⟩, ?_⟩⟩
  have hk1 := hK.1
  exact ⟨e1, e2, e3, e4, ⟨hT, hK, ⟨(by decide : (0 : Int) ≤ 0), (by omega : (0 : Int) < e1)⟩, hK.2.1, rfl, rfl⟩, rfl, rfl, rfl, rfl⟩
set_option maxRecDepth 8000 in
theorem sg_95_0 {d : Nat} {I : XI} {L : XL} {D : GD} {post : XQ}  {u1 : Int} (h : (((0 : Int) = 0 ∨ (0 : Int) = 1) ∧ post (some (xi (0 : Int))) (xwr I 1 (10 : Int) (((1 : Int) + ((8 : Int) * (I 1 (9 : Int)))) + u1)) L (gG D))) : xR d 95 es_95 0 [xr (some 1), xi u1] [] I L (gG D) 0 0 post := xW_R (fun k => false) 12 _ _ _ _ _ _ _ _ _ _ _ _ h
set_option maxRecDepth 8000 in
theorem w_95 {d : Nat} {I : XI} {L : XL} {D : GD} {post : XQ}   {why : Int} (hd : 0 ≤ d) (h : post (some (xi (0 : Int))) (xsc I 1 (xup (I 1) (10 : Int) (((1 : Int) + ((8 : Int) * (I 1 (9 : Int)))) + why))) L (gG D)) : xR d 95 es_95 0 [xr (some 1), xi why] [] I L (gG D) 0 0 post := sg_95_0  (⟨(by decide), h⟩)
theorem c_95 {I : XI} {L : XL} {D : GD}   {why : Int} : xM 0 95 [xr (some 1), xi why] I L (gG D) (0, 0) (xD (some (xi (xb (False)))) (xsc I 1 (xup (I 1) (10 : Int) (1 + 8 * I 1 (9 : Int) + why))) L (gG D)) := by
  intro d hd
  refine w_95 (by omega) ?_
  repeat' first | (with_reducible intro _) | (with_reducible refine And.intro ?_ ?_)
  all_goals first | omega | (rw [xb_f (fun r => r)]; exact xD_in) | exact xD_in
