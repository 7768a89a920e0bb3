def twp (b : Int → Int) (n q : Int) (k : Int) : Int := if 0 ≤ tw b n q ∧ tw b n q < k then 260 + tw b n q else 257
set_option maxRecDepth 8000 in
theorem sg_99_0 {d : Nat} {I : XI} {L : XL} {D : GD} {post : XQ}  {u1 : Int} (h : xR d 99 es_99 2 [xr (some 1), xi u1, xi u1, xt 0, xt 0] [] I L (gG D) 0 0 post) : xR d 99 es_99 0 [xr (some 1), xi u1, xt 0, xt 0, xt 0] [] I L (gG D) 0 0 post := xW_R (fun k => Nat.beq k 2 || Nat.beq k 8 || Nat.beq k 9 || Nat.beq k 17 || Nat.beq k 31 || Nat.beq k 43) 2 _ _ _ _ _ _ _ _ _ _ _ _ h
set_option maxRecDepth 8000 in
theorem w_99 {d : Nat} {I : XI} {L : XL} {D : GD} {post : XQ}   {fm : Int} (hd : 0 ≤ d) (h : xR d 99 es_99 2 [xr (some 1), xi fm, xi fm, xt 0, xt 0] [] I L (gG D) 0 0 post) : xR d 99 es_99 0 [xr (some 1), xi fm, xt 0, xt 0, xt 0] [] I L (gG D) 0 0 post := sg_99_0  (h)
set_option maxRecDepth 8000 in
theorem sg_99_2 {d : Nat} {I : XI} {L : XL} {D : GD} {post : XQ}  {u1 : Int} {u2 : Int} {u3 : XV} {u4 : XV} (h : (((-2147483648 ≤ u2 ∧ u2 ≤ 2147483647) ∧ (-2147483648 ≤ (I 1 (6 : Int)) ∧ (I 1 (6 : Int)) ≤ 2147483647)) ∧ (((I 1 (6 : Int)) ≤ u2 → xR d 99 es_99 17 [xr (some 1), xi u1, xi u2, xi (257 : Int), xi (0 : Int)] [] I L (gG D) 0 0 post) ∧ (u2 < (I 1 (6 : Int)) → xR d 99 es_99 8 [xr (some 1), xi u1, xi u2, u3, u4] [xi u2, xr (some 1)] I L (gG D) 0 0 post)))) : xR d 99 es_99 2 [xr (some 1), xi u1, xi u2, u3, u4] [] I L (gG D) 0 0 post := xW_R (fun k => Nat.beq k 2 || Nat.beq k 8 || Nat.beq k 9 || Nat.beq k 17 || Nat.beq k 31 || Nat.beq k 43) 8 _ _ _ _ _ _ _ _ _ _ _ _ h
set_option maxRecDepth 8000 in
theorem sg_99_10 {d : Nat} {I : XI} {L : XL} {D : GD} {post : XQ}  {u1 : Int} {u2 : Int} {u3 : XV} {u4 : XV} {w0 : Int} (h : ((-2147483648 ≤ w0 ∧ w0 ≤ 2147483647) ∧ ((w0 = 0 → xR d 99 es_99 17 [xr (some 1), xi u1, xi u2, xi (257 : Int), xi (0 : Int)] [] I L (gG D) 0 0 post) ∧ (¬ w0 = 0 → xR d 99 es_99 2 [xr (some 1), xi u1, xi (u2 + (1 : Int)), u3, u4] [] I L (gG D) 0 0 post)))) : xR d 99 es_99 10 [xr (some 1), xi u1, xi u2, u3, u4] [xi w0] I L (gG D) 0 0 post := xW_R (fun k => Nat.beq k 2 || Nat.beq k 8 || Nat.beq k 9 || Nat.beq k 17 || Nat.beq k 31 || Nat.beq k 43) 5 _ _ _ _ _ _ _ _ _ _ _ _ h
set_option maxRecDepth 8000 in
theorem b_99a {d : Nat} {I : XI} {L : XL} {D : GD} {post : XQ}   {fm : Int} {bh : Int} {x3 : XV} {x4 : XV} (hd : 1 ≤ d) (h : (((-2147483648 ≤ bh ∧ bh ≤ 2147483647) ∧ (-2147483648 ≤ (I 1 (6 : Int)) ∧ (I 1 (6 : Int)) ≤ 2147483647)) ∧ (((I 1 (6 : Int)) ≤ bh → xR d 99 es_99 17 [xr (some 1), xi fm, xi bh, xi (257 : Int), xi (0 : Int)] [] I L (gG D) 0 0 post) ∧ (bh < (I 1 (6 : Int)) → ((TPO (I 2) (I 1 (6 : Int)) ∧ (0 ≤ bh ∧ bh ≤ 2000)) ∧ ((-2147483648 ≤ (tc (I 2) (I 1 (6 : Int)) bh) ∧ (tc (I 2) (I 1 (6 : Int)) bh) ≤ 2147483647) ∧ (((¬ ((97 ≤ (tc (I 2) (I 1 (6 : Int)) bh) ∧ (tc (I 2) (I 1 (6 : Int)) bh) ≤ 122)) → xR d 99 es_99 17 [xr (some 1), xi fm, xi bh, xi (257 : Int), xi (0 : Int)] [] I L (gG D) 0 0 post) ∧ ((97 ≤ (tc (I 2) (I 1 (6 : Int)) bh) ∧ (tc (I 2) (I 1 (6 : Int)) bh) ≤ 122) → xR d 99 es_99 2 [xr (some 1), xi fm, xi (bh + (1 : Int)), x3, x4] [] I L (gG D) 0 0 post))))))))) : xR d 99 es_99 2 [xr (some 1), xi fm, xi bh, x3, x4] [] I L (gG D) 0 0 post := sg_99_2  (⟨⟨h.1.1, h.1.2⟩, ⟨fun q3542 => (h.2.1 q3542), fun q3543 => (xR_cF rfl rfl rfl (c_102 (h.2.2 q3543).1) (by omega) (xR_cF rfl rfl rfl (c_104 (h.2.2 q3543).2.1) (by omega) (sg_99_10  ⟨(xb_rg _), ⟨fun q3540 => ((h.2.2 q3543).2.2.1 (xb_0 q3540)), fun q3541 => ((h.2.2 q3543).2.2.2 (xb_n0 q3541))⟩⟩)))⟩⟩)
set_option maxRecDepth 8000 in
theorem sg_99_17 {d : Nat} {I : XI} {L : XL} {D : GD} {post : XQ}  {u1 : Int} {u2 : Int} {u3 : Int} {u4 : Int} (h : ((8 ≤ d ∧ 1 ≤ 8) ∧ (((-2147483648 ≤ ((u4 + (1 : Int)) * (7 : Int)) ∧ ((u4 + (1 : Int)) * (7 : Int)) ≤ 2147483647) ∧ (-2147483648 ≤ (126 : Int) ∧ (126 : Int) ≤ 2147483647)) ∧ (((126 : Int) < ((u4 + (1 : Int)) * (7 : Int)) → xR d 99 es_99 43 [xr (some 1), xi u1, xi u2, xi u3, xi u4] [xi (-1 : Int), xi u1, xi u3, xr (some 1)] I L (gG D) 0 0 post) ∧ (((u4 + (1 : Int)) * (7 : Int)) ≤ (126 : Int) → xR d 99 es_99 31 [xr (some 1), xi u1, xi u2, xi u3, xi u4] [xi u2, xi u1, xi (u4 * (7 : Int)), xr (some 1)] I L (gG D) 0 0 post))))) : xR d 99 es_99 17 [xr (some 1), xi u1, xi u2, xi u3, xi u4] [] I L (gG D) 0 0 post := xW_R (fun k => Nat.beq k 2 || Nat.beq k 8 || Nat.beq k 9 || Nat.beq k 17 || Nat.beq k 31 || Nat.beq k 43) 14 _ _ _ _ _ _ _ _ _ _ _ _ h
set_option maxRecDepth 8000 in
theorem sg_99_44 {d : Nat} {I : XI} {L : XL} {D : GD} {post : XQ}  {u1 : Int} {u2 : Int} {u3 : Int} {u4 : Int} (h : post (some (xi u2)) I L (gG D)) : xR d 99 es_99 44 [xr (some 1), xi u1, xi u2, xi u3, xi u4] [] I L (gG D) 0 0 post := xW_R (fun k => Nat.beq k 2 || Nat.beq k 8 || Nat.beq k 9 || Nat.beq k 17 || Nat.beq k 31 || Nat.beq k 43) 2 _ _ _ _ _ _ _ _ _ _ _ _ h
set_option maxRecDepth 8000 in
theorem sg_99_32 {d : Nat} {I : XI} {L : XL} {D : GD} {post : XQ}  {u1 : Int} {u2 : Int} {u3 : Int} {u4 : Int} {w0 : Int} (h : ((-2147483648 ≤ w0 ∧ w0 ≤ 2147483647) ∧ ((w0 = 0 → xR d 99 es_99 17 [xr (some 1), xi u1, xi u2, xi u3, xi (u4 + (1 : Int))] [] I L (gG D) 0 0 post) ∧ (¬ w0 = 0 → xR d 99 es_99 17 [xr (some 1), xi u1, xi u2, xi ((260 : Int) + u4), xi (u4 + (1 : Int))] [] I L (gG D) 0 0 post)))) : xR d 99 es_99 32 [xr (some 1), xi u1, xi u2, xi u3, xi u4] [xi w0] I L (gG D) 0 0 post := xW_R (fun k => Nat.beq k 2 || Nat.beq k 8 || Nat.beq k 9 || Nat.beq k 17 || Nat.beq k 31 || Nat.beq k 43) 7 _ _ _ _ _ _ _ _ _ _ _ _ h
set_option maxRecDepth 8000 in
theorem b_99b {d : Nat} {I : XI} {L : XL} {D : GD} {post : XQ}   {fm : Int} {bh : Int} {pc : Int} {i0 : Int} (hd : 9 ≤ d) (h : (((-2147483648 ≤ ((i0 + (1 : Int)) * (7 : Int)) ∧ ((i0 + (1 : Int)) * (7 : Int)) ≤ 2147483647)) ∧ (((126 : Int) < ((i0 + (1 : Int)) * (7 : Int)) → ((0 ≤ I 1 (4 : Int) ∧ I 1 (4 : Int) ≤ 400) ∧ post (some (xi bh)) (xsc (xsc (xsc (xsc I 1 (xup (I 1) (4 : Int) (I 1 (4 : Int) + 1))) 3 (xup (I 3) (I 1 (4 : Int)) pc)) 4 (xup (I 4) (I 1 (4 : Int)) fm)) 5 (xup (I 5) (I 1 (4 : Int)) (-1 : Int))) L (gG D))) ∧ (((i0 + (1 : Int)) * (7 : Int)) ≤ (126 : Int) → ((TPO (I 2) (I 1 (6 : Int)) ∧ (0 ≤ (i0 * (7 : Int)) ∧ (i0 * (7 : Int)) ≤ 119) ∧ (0 ≤ fm ∧ fm ≤ 400) ∧ (0 ≤ bh ∧ bh ≤ 400)) ∧ (((¬ ((bh - fm ≤ 7 ∧ inm (I 2) (I 1 (6 : Int)) (i0 * (7 : Int)) fm bh = true)) → xR d 99 es_99 17 [xr (some 1), xi fm, xi bh, xi pc, xi (i0 + (1 : Int))] [] I L (gG D) 0 0 post) ∧ ((bh - fm ≤ 7 ∧ inm (I 2) (I 1 (6 : Int)) (i0 * (7 : Int)) fm bh = true) → xR d 99 es_99 17 [xr (some 1), xi fm, xi bh, xi ((260 : Int) + i0), xi (i0 + (1 : Int))] [] I L (gG D) 0 0 post)))))))) : xR d 99 es_99 17 [xr (some 1), xi fm, xi bh, xi pc, xi i0] [] I L (gG D) 0 0 post := sg_99_17  (⟨⟨(by omega), (by decide)⟩, ⟨⟨h.1, (by decide)⟩, ⟨fun q3546 => (xR_cF rfl rfl rfl (c_101 (h.2.1 q3546).1) (by omega) (sg_99_44  (h.2.1 q3546).2)), fun q3547 => (xR_cF rfl rfl rfl (c_100 (h.2.2 q3547).1) (by omega) (sg_99_32  ⟨(xb_rg _), ⟨fun q3544 => ((h.2.2 q3547).2.1 (xb_0 q3544)), fun q3545 => ((h.2.2 q3547).2.2 (xb_n0 q3545))⟩⟩))⟩⟩⟩)
theorem c_99 {I : XI} {L : XL} {D : GD}   {fm : Int} (h : (TPO (I 2) (I 1 (6 : Int)) ∧ (0 ≤ fm ∧ fm ≤ I 1 (6 : Int)) ∧ (0 ≤ I 1 (4 : Int) ∧ I 1 (4 : Int) ≤ 400))) : xM 9 99 [xr (some 1), xi fm] I L (gG D) (0, 0) (xD (some (xi (le_ (I 2) (I 1 (6 : Int)) fm))) (xsc (xsc (xsc (xsc I 1 (xup (I 1) (4 : Int) (I 1 (4 : Int) + 1))) 3 (xup (I 3) (I 1 (4 : Int)) (if (tw (I 2) (I 1 (6 : Int)) fm) = -1 then 257 else 260 + (tw (I 2) (I 1 (6 : Int)) fm)))) 4 (xup (I 4) (I 1 (4 : Int)) fm)) 5 (xup (I 5) (I 1 (4 : Int)) (-1))) L (gG D)) := by
  intro d hd
  obtain ⟨hT, h1, h2⟩ := h
  have hT1 := hT.1
  have hl := le_all (b := I 2) (n := I 1 6) (p := fm)
  have hl2 := hl.1.2 h1.2
  have htw := tw_rg (I 2) (I 1 6) fm
  refine w_99 (by omega) ?_
  have keyb : ∀ k : Nat, k ≤ 18 → xR d 99 es_99 17 [xr (some 1), xi fm, xi (le_ (I 2) (I 1 6) fm), xi (twp (I 2) (I 1 6) fm (k : Int)), xi (k : Int)] [] I L (gG D) 0 0 (xD (some (xi (le_ (I 2) (I 1 (6 : Int)) fm))) (xsc (xsc (xsc (xsc I 1 (xup (I 1) (4 : Int) (I 1 (4 : Int) + 1))) 3 (xup (I 3) (I 1 (4 : Int)) (if (tw (I 2) (I 1 (6 : Int)) fm) = -1 then 257 else 260 + (tw (I 2) (I 1 (6 : Int)) fm)))) 4 (xup (I 4) (I 1 (4 : Int)) fm)) 5 (xup (I 5) (I 1 (4 : Int)) (-1))) L (gG D)) := by
    refine xfor ?_ ?_
    · have etw : twp (I 2) (I 1 6) fm ((18 : Nat) : Int) = if tw (I 2) (I 1 6) fm = -1 then 257 else 260 + tw (I 2) (I 1 6) fm := by
        unfold twp
        by_cases q : tw (I 2) (I 1 6) fm = -1
        · rw [if_pos q, if_neg (by omega)]
        · rw [if_neg q, if_pos (by omega)]
      rw [etw]
      refine b_99b (by omega) ?_
      repeat' first | (with_reducible intro _) | (with_reducible refine And.intro ?_ ?_)
      all_goals first | omega | assumption | skip
      all_goals first | omega | exact ⟨by omega, by omega⟩ | exact xD_in
    · intro k hk ih 
      have hnm := inm_all hT h1.1 k hk
      have eP : twp (I 2) (I 1 6) fm ((k : Int) + 1) = if tw (I 2) (I 1 6) fm = (k : Int) then 260 + (k : Int) else twp (I 2) (I 1 6) fm (k : Int) := by
        unfold twp
        by_cases q : tw (I 2) (I 1 6) fm = (k : Int)
        · rw [if_pos q, if_pos (by omega), q]
        · rw [if_neg q]
          by_cases q2 : 0 ≤ tw (I 2) (I 1 6) fm ∧ tw (I 2) (I 1 6) fm < (k : Int)
          · rw [if_pos q2, if_pos (by omega)]
          · rw [if_neg q2, if_neg (by omega)]
      rw [show ((k + 1 : Nat) : Int) = (k : Int) + 1 by omega, eP] at ih
      refine b_99b (by omega) ?_
      repeat' first | (with_reducible intro _) | (with_reducible refine And.intro ?_ ?_)
      all_goals first | omega | assumption | skip
      all_goals first
        | exact ⟨hT, by omega, by omega, by omega⟩
        | (have q9 := hnm.mp (by assumption)
           rw [if_pos q9] at ih; exact ih)
        | (have q9 : ¬ tw (I 2) (I 1 6) fm = (k : Int) := fun r => absurd (hnm.mpr r) (by assumption)
           rw [if_neg q9] at ih; exact ih)
  have keya : ∀ k : Nat, k ≤ (le_ (I 2) (I 1 6) fm - fm).toNat → ∀ (x3 : XV) (x4 : XV), xR d 99 es_99 2 [xr (some 1), xi fm, xi (fm + (k : Int)), x3, x4] [] I L (gG D) 0 0 (xD (some (xi (le_ (I 2) (I 1 (6 : Int)) fm))) (xsc (xsc (xsc (xsc I 1 (xup (I 1) (4 : Int) (I 1 (4 : Int) + 1))) 3 (xup (I 3) (I 1 (4 : Int)) (if (tw (I 2) (I 1 (6 : Int)) fm) = -1 then 257 else 260 + (tw (I 2) (I 1 (6 : Int)) fm)))) 4 (xup (I 4) (I 1 (4 : Int)) fm)) 5 (xup (I 5) (I 1 (4 : Int)) (-1))) L (gG D)) := by
    refine xfor ?_ ?_
    · intro x3 x4
      have eq2 : fm + (((le_ (I 2) (I 1 6) fm - fm).toNat : Nat) : Int) = le_ (I 2) (I 1 6) fm := by omega
      have hdg := tc_lr hT (p := le_ (I 2) (I 1 6) fm) (by omega)
      have htr := tc_rg hT (le_ (I 2) (I 1 6) fm)
      have hno := hl.2.2
      have k0 := keyb 0 (Nat.zero_le _)
      rw [show twp (I 2) (I 1 6) fm ((0 : Nat) : Int) = 257 from if_neg (by omega)] at k0
      rw [eq2]
      refine b_99a (by omega) ?_
      repeat' first | (with_reducible intro _) | (with_reducible refine And.intro ?_ ?_)
      all_goals first | omega | assumption | skip
      all_goals first
        | exact ⟨hT, by omega⟩
        | (exact absurd (hdg.mp (by assumption)) hno)
        | exact k0
    · intro k hk ih x3 x4
      have hk1 := hl.2.1 (fm + (k : Int)) (by omega) (by omega)
      have hkb := of_decide_eq_true hk1
      have hdg := (tc_lr hT (p := fm + (k : Int)) (by omega)).mpr hk1
      have htr := tc_rg hT (fm + (k : Int))
      rw [show fm + ((k + 1 : Nat) : Int) = fm + (k : Int) + 1 by omega] at ih
      refine b_99a (by omega) ?_
      repeat' first | (with_reducible intro _) | (with_reducible refine And.intro ?_ ?_)
      all_goals first | omega | assumption | skip
      all_goals first
        | exact ⟨hT, by omega⟩
        | (exact absurd hdg (by assumption))
        | exact ih _ _
  have k0 := keya 0 (Nat.zero_le _) (xt 0) (xt 0)
  rw [show fm + ((0 : Nat) : Int) = fm by omega] at k0
  exact k0
set_option maxRecDepth 8000 in
theorem sg_97_0 {d : Nat} {I : XI} {L : XL} {D : GD} {post : XQ}  {u1 : Int} (h : xR d 97 es_97 2 [xr (some 1), xi u1, xt 0] [xi u1, xr (some 1)] I L (gG D) 0 0 post) : xR d 97 es_97 0 [xr (some 1), xi u1, xt 0] [] I L (gG D) 0 0 post := xW_R (fun k => Nat.beq k 2 || Nat.beq k 5 || Nat.beq k 9 || Nat.beq k 12 || Nat.beq k 16 || Nat.beq k 28 || Nat.beq k 40 || Nat.beq k 49) 2 _ _ _ _ _ _ _ _ _ _ _ _ h
set_option maxRecDepth 8000 in
theorem sg_97_3 {d : Nat} {I : XI} {L : XL} {D : GD} {post : XQ}  {u1 : Int} {w0 : Int} (h : xR d 97 es_97 5 [xr (some 1), xi u1, xi w0] [xi w0] I L (gG D) 0 0 post) : xR d 97 es_97 3 [xr (some 1), xi u1, xt 0] [xi w0] I L (gG D) 0 0 post := xW_R (fun k => Nat.beq k 2 || Nat.beq k 5 || Nat.beq k 9 || Nat.beq k 12 || Nat.beq k 16 || Nat.beq k 28 || Nat.beq k 40 || Nat.beq k 49) 2 _ _ _ _ _ _ _ _ _ _ _ _ h
set_option maxRecDepth 8000 in
theorem sg_97_6 {d : Nat} {I : XI} {L : XL} {D : GD} {post : XQ}  {u1 : Int} {u2 : Int} {w0 : Int} (h : ((-2147483648 ≤ w0 ∧ w0 ≤ 2147483647) ∧ ((w0 = 0 → xR d 97 es_97 12 [xr (some 1), xi u1, xi u2] [xi u2] I L (gG D) 0 0 post) ∧ (¬ w0 = 0 → xR d 97 es_97 9 [xr (some 1), xi u1, xi u2] [xi u1, xr (some 1)] I L (gG D) 0 0 post)))) : xR d 97 es_97 6 [xr (some 1), xi u1, xi u2] [xi w0] I L (gG D) 0 0 post := xW_R (fun k => Nat.beq k 2 || Nat.beq k 5 || Nat.beq k 9 || Nat.beq k 12 || Nat.beq k 16 || Nat.beq k 28 || Nat.beq k 40 || Nat.beq k 49) 3 _ _ _ _ _ _ _ _ _ _ _ _ h
set_option maxRecDepth 8000 in
theorem sg_97_13 {d : Nat} {I : XI} {L : XL} {D : GD} {post : XQ}  {u1 : Int} {u2 : Int} {w0 : Int} (h : ((-2147483648 ≤ w0 ∧ w0 ≤ 2147483647) ∧ ((w0 = 0 → (((-2147483648 ≤ u2 ∧ u2 ≤ 2147483647) ∧ (-2147483648 ≤ (60 : Int) ∧ (60 : Int) ≤ 2147483647)) ∧ ((u2 = (60 : Int) → xR d 97 es_97 28 [xr (some 1), xi u1, xi u2] [xi (u1 + (1 : Int)), xr (some 1)] I L (gG D) 0 0 post) ∧ (¬ u2 = (60 : Int) → (((-2147483648 ≤ u2 ∧ u2 ≤ 2147483647) ∧ (-2147483648 ≤ (62 : Int) ∧ (62 : Int) ≤ 2147483647)) ∧ ((¬ u2 = (62 : Int) → xR d 97 es_97 49 [xr (some 1), xi u1, xi u2] [xi (-1 : Int), xi u1, xi u2, xr (some 1)] I L (gG D) 0 0 post) ∧ (u2 = (62 : Int) → xR d 97 es_97 28 [xr (some 1), xi u1, xi u2] [xi (u1 + (1 : Int)), xr (some 1)] I L (gG D) 0 0 post))))))) ∧ (¬ w0 = 0 → xR d 97 es_97 16 [xr (some 1), xi u1, xi u2] [xi u1, xr (some 1)] I L (gG D) 0 0 post)))) : xR d 97 es_97 13 [xr (some 1), xi u1, xi u2] [xi w0] I L (gG D) 0 0 post := xW_R (fun k => Nat.beq k 2 || Nat.beq k 5 || Nat.beq k 9 || Nat.beq k 12 || Nat.beq k 16 || Nat.beq k 28 || Nat.beq k 40 || Nat.beq k 49) 11 _ _ _ _ _ _ _ _ _ _ _ _ h
set_option maxRecDepth 8000 in
theorem sg_97_29 {d : Nat} {I : XI} {L : XL} {D : GD} {post : XQ}  {u1 : Int} {u2 : Int} {w0 : Int} (h : (((-2147483648 ≤ w0 ∧ w0 ≤ 2147483647) ∧ (-2147483648 ≤ (61 : Int) ∧ (61 : Int) ≤ 2147483647)) ∧ ((¬ w0 = (61 : Int) → xR d 97 es_97 49 [xr (some 1), xi u1, xi u2] [xi (-1 : Int), xi u1, xi u2, xr (some 1)] I L (gG D) 0 0 post) ∧ (w0 = (61 : Int) → (((-2147483648 ≤ u2 ∧ u2 ≤ 2147483647) ∧ (-2147483648 ≤ (60 : Int) ∧ (60 : Int) ≤ 2147483647)) ∧ ((¬ u2 = (60 : Int) → xR d 97 es_97 40 [xr (some 1), xi u1, xi u2] [xi (-1 : Int), xi u1, xi (259 : Int), xr (some 1)] I L (gG D) 0 0 post) ∧ (u2 = (60 : Int) → xR d 97 es_97 40 [xr (some 1), xi u1, xi u2] [xi (-1 : Int), xi u1, xi (258 : Int), xr (some 1)] I L (gG D) 0 0 post))))))) : xR d 97 es_97 29 [xr (some 1), xi u1, xi u2] [xi w0] I L (gG D) 0 0 post := xW_R (fun k => Nat.beq k 2 || Nat.beq k 5 || Nat.beq k 9 || Nat.beq k 12 || Nat.beq k 16 || Nat.beq k 28 || Nat.beq k 40 || Nat.beq k 49) 10 _ _ _ _ _ _ _ _ _ _ _ _ h
set_option maxRecDepth 8000 in
theorem sg_97_50 {d : Nat} {I : XI} {L : XL} {D : GD} {post : XQ}  {u1 : Int} {u2 : Int} (h : post (some (xi (u1 + (1 : Int)))) I L (gG D)) : xR d 97 es_97 50 [xr (some 1), xi u1, xi u2] [] I L (gG D) 0 0 post := xW_R (fun k => Nat.beq k 2 || Nat.beq k 5 || Nat.beq k 9 || Nat.beq k 12 || Nat.beq k 16 || Nat.beq k 28 || Nat.beq k 40 || Nat.beq k 49) 4 _ _ _ _ _ _ _ _ _ _ _ _ h
set_option maxRecDepth 8000 in
theorem sg_97_41 {d : Nat} {I : XI} {L : XL} {D : GD} {post : XQ}  {u1 : Int} {u2 : Int} (h : post (some (xi (u1 + (2 : Int)))) I L (gG D)) : xR d 97 es_97 41 [xr (some 1), xi u1, xi u2] [] I L (gG D) 0 0 post := xW_R (fun k => Nat.beq k 2 || Nat.beq k 5 || Nat.beq k 9 || Nat.beq k 12 || Nat.beq k 16 || Nat.beq k 28 || Nat.beq k 40 || Nat.beq k 49) 4 _ _ _ _ _ _ _ _ _ _ _ _ h
set_option maxRecDepth 8000 in
theorem sg_97_17 {d : Nat} {I : XI} {L : XL} {D : GD} {post : XQ}  {u1 : Int} {u2 : Int} {w0 : Int} (h : post (some (xi w0)) I L (gG D)) : xR d 97 es_97 17 [xr (some 1), xi u1, xi u2] [xi w0] I L (gG D) 0 0 post := xW_R (fun k => Nat.beq k 2 || Nat.beq k 5 || Nat.beq k 9 || Nat.beq k 12 || Nat.beq k 16 || Nat.beq k 28 || Nat.beq k 40 || Nat.beq k 49) 1 _ _ _ _ _ _ _ _ _ _ _ _ h
set_option maxRecDepth 8000 in
theorem sg_97_10 {d : Nat} {I : XI} {L : XL} {D : GD} {post : XQ}  {u1 : Int} {u2 : Int} {w0 : Int} (h : post (some (xi w0)) I L (gG D)) : xR d 97 es_97 10 [xr (some 1), xi u1, xi u2] [xi w0] I L (gG D) 0 0 post := xW_R (fun k => Nat.beq k 2 || Nat.beq k 5 || Nat.beq k 9 || Nat.beq k 12 || Nat.beq k 16 || Nat.beq k 28 || Nat.beq k 40 || Nat.beq k 49) 1 _ _ _ _ _ _ _ _ _ _ _ _ h
set_option maxRecDepth 8000 in
theorem w_97 {d : Nat} {I : XI} {L : XL} {D : GD} {post : XQ}   {fm : Int} (hd : 10 ≤ d) (h : ((TPO (I 2) (I 1 (6 : Int)) ∧ (0 ≤ fm ∧ fm ≤ 2000)) ∧ ((-2147483648 ≤ (tc (I 2) (I 1 (6 : Int)) fm) ∧ (tc (I 2) (I 1 (6 : Int)) fm) ≤ 2147483647) ∧ (((¬ ((48 ≤ (tc (I 2) (I 1 (6 : Int)) fm) ∧ (tc (I 2) (I 1 (6 : Int)) fm) ≤ 57)) → (((¬ ((97 ≤ (tc (I 2) (I 1 (6 : Int)) fm) ∧ (tc (I 2) (I 1 (6 : Int)) fm) ≤ 122)) → ((((tc (I 2) (I 1 (6 : Int)) fm) = (60 : Int) → ((TPO (I 2) (I 1 (6 : Int)) ∧ (0 ≤ (fm + (1 : Int)) ∧ (fm + (1 : Int)) ≤ 2000)) ∧ (((-2147483648 ≤ (tc (I 2) (I 1 (6 : Int)) (fm + (1 : Int))) ∧ (tc (I 2) (I 1 (6 : Int)) (fm + (1 : Int))) ≤ 2147483647)) ∧ ((¬ (tc (I 2) (I 1 (6 : Int)) (fm + (1 : Int))) = (61 : Int) → ((0 ≤ I 1 (4 : Int) ∧ I 1 (4 : Int) ≤ 400) ∧ post (some (xi (fm + (1 : Int)))) (xsc (xsc (xsc (xsc I 1 (xup (I 1) (4 : Int) (I 1 (4 : Int) + 1))) 3 (xup (I 3) (I 1 (4 : Int)) (tc (I 2) (I 1 (6 : Int)) fm))) 4 (xup (I 4) (I 1 (4 : Int)) fm)) 5 (xup (I 5) (I 1 (4 : Int)) (-1 : Int))) L (gG D))) ∧ ((tc (I 2) (I 1 (6 : Int)) (fm + (1 : Int))) = (61 : Int) → (((¬ (tc (I 2) (I 1 (6 : Int)) fm) = (60 : Int) → ((0 ≤ I 1 (4 : Int) ∧ I 1 (4 : Int) ≤ 400) ∧ post (some (xi (fm + (2 : Int)))) (xsc (xsc (xsc (xsc I 1 (xup (I 1) (4 : Int) (I 1 (4 : Int) + 1))) 3 (xup (I 3) (I 1 (4 : Int)) (259 : Int))) 4 (xup (I 4) (I 1 (4 : Int)) fm)) 5 (xup (I 5) (I 1 (4 : Int)) (-1 : Int))) L (gG D))) ∧ ((tc (I 2) (I 1 (6 : Int)) fm) = (60 : Int) → ((0 ≤ I 1 (4 : Int) ∧ I 1 (4 : Int) ≤ 400) ∧ post (some (xi (fm + (2 : Int)))) (xsc (xsc (xsc (xsc I 1 (xup (I 1) (4 : Int) (I 1 (4 : Int) + 1))) 3 (xup (I 3) (I 1 (4 : Int)) (258 : Int))) 4 (xup (I 4) (I 1 (4 : Int)) fm)) 5 (xup (I 5) (I 1 (4 : Int)) (-1 : Int))) L (gG D)))))))))) ∧ (¬ (tc (I 2) (I 1 (6 : Int)) fm) = (60 : Int) → (((¬ (tc (I 2) (I 1 (6 : Int)) fm) = (62 : Int) → ((0 ≤ I 1 (4 : Int) ∧ I 1 (4 : Int) ≤ 400) ∧ post (some (xi (fm + (1 : Int)))) (xsc (xsc (xsc (xsc I 1 (xup (I 1) (4 : Int) (I 1 (4 : Int) + 1))) 3 (xup (I 3) (I 1 (4 : Int)) (tc (I 2) (I 1 (6 : Int)) fm))) 4 (xup (I 4) (I 1 (4 : Int)) fm)) 5 (xup (I 5) (I 1 (4 : Int)) (-1 : Int))) L (gG D))) ∧ ((tc (I 2) (I 1 (6 : Int)) fm) = (62 : Int) → ((TPO (I 2) (I 1 (6 : Int)) ∧ (0 ≤ (fm + (1 : Int)) ∧ (fm + (1 : Int)) ≤ 2000)) ∧ (((-2147483648 ≤ (tc (I 2) (I 1 (6 : Int)) (fm + (1 : Int))) ∧ (tc (I 2) (I 1 (6 : Int)) (fm + (1 : Int))) ≤ 2147483647)) ∧ ((¬ (tc (I 2) (I 1 (6 : Int)) (fm + (1 : Int))) = (61 : Int) → ((0 ≤ I 1 (4 : Int) ∧ I 1 (4 : Int) ≤ 400) ∧ post (some (xi (fm + (1 : Int)))) (xsc (xsc (xsc (xsc I 1 (xup (I 1) (4 : Int) (I 1 (4 : Int) + 1))) 3 (xup (I 3) (I 1 (4 : Int)) (tc (I 2) (I 1 (6 : Int)) fm))) 4 (xup (I 4) (I 1 (4 : Int)) fm)) 5 (xup (I 5) (I 1 (4 : Int)) (-1 : Int))) L (gG D))) ∧ ((tc (I 2) (I 1 (6 : Int)) (fm + (1 : Int))) = (61 : Int) → (((¬ (tc (I 2) (I 1 (6 : Int)) fm) = (60 : Int) → ((0 ≤ I 1 (4 : Int) ∧ I 1 (4 : Int) ≤ 400) ∧ post (some (xi (fm + (2 : Int)))) (xsc (xsc (xsc (xsc I 1 (xup (I 1) (4 : Int) (I 1 (4 : Int) + 1))) 3 (xup (I 3) (I 1 (4 : Int)) (259 : Int))) 4 (xup (I 4) (I 1 (4 : Int)) fm)) 5 (xup (I 5) (I 1 (4 : Int)) (-1 : Int))) L (gG D))) ∧ ((tc (I 2) (I 1 (6 : Int)) fm) = (60 : Int) → ((0 ≤ I 1 (4 : Int) ∧ I 1 (4 : Int) ≤ 400) ∧ post (some (xi (fm + (2 : Int)))) (xsc (xsc (xsc (xsc I 1 (xup (I 1) (4 : Int) (I 1 (4 : Int) + 1))) 3 (xup (I 3) (I 1 (4 : Int)) (258 : Int))) 4 (xup (I 4) (I 1 (4 : Int)) fm)) 5 (xup (I 5) (I 1 (4 : Int)) (-1 : Int))) L (gG D)))))))))))))))) ∧ ((97 ≤ (tc (I 2) (I 1 (6 : Int)) fm) ∧ (tc (I 2) (I 1 (6 : Int)) fm) ≤ 122) → ((TPO (I 2) (I 1 (6 : Int)) ∧ (0 ≤ fm ∧ fm ≤ I 1 (6 : Int)) ∧ (0 ≤ I 1 (4 : Int) ∧ I 1 (4 : Int) ≤ 400)) ∧ post (some (xi (le_ (I 2) (I 1 (6 : Int)) fm))) (xsc (xsc (xsc (xsc I 1 (xup (I 1) (4 : Int) (I 1 (4 : Int) + 1))) 3 (xup (I 3) (I 1 (4 : Int)) (if (tw (I 2) (I 1 (6 : Int)) fm) = -1 then 257 else 260 + (tw (I 2) (I 1 (6 : Int)) fm)))) 4 (xup (I 4) (I 1 (4 : Int)) fm)) 5 (xup (I 5) (I 1 (4 : Int)) (-1))) L (gG D)))))) ∧ ((48 ≤ (tc (I 2) (I 1 (6 : Int)) fm) ∧ (tc (I 2) (I 1 (6 : Int)) fm) ≤ 57) → ((TPO (I 2) (I 1 (6 : Int)) ∧ (0 ≤ fm ∧ fm ≤ I 1 (6 : Int)) ∧ (0 ≤ I 1 (4 : Int) ∧ I 1 (4 : Int) ≤ 400)) ∧ post (some (xi (de_ (I 2) (I 1 (6 : Int)) fm))) (xsc (xsc (xsc (xsc I 1 (xup (I 1) (4 : Int) (I 1 (4 : Int) + 1))) 3 (xup (I 3) (I 1 (4 : Int)) 256)) 4 (xup (I 4) (I 1 (4 : Int)) fm)) 5 (xup (I 5) (I 1 (4 : Int)) (tnv (I 2) (I 1 (6 : Int)) fm))) L (gG D)))))))) : xR d 97 es_97 0 [xr (some 1), xi fm, xt 0] [] I L (gG D) 0 0 post := sg_97_0  ((xR_cF rfl rfl rfl (c_102 h.1) (by omega) (sg_97_3  (xR_cF rfl rfl rfl (c_103 h.2.1) (by omega) (sg_97_6  ⟨(xb_rg _), ⟨fun q3562 => (xR_cF rfl rfl rfl (c_104 h.2.1) (by omega) (sg_97_13  ⟨(xb_rg _), ⟨fun q3560 => ⟨⟨h.2.1, (by decide)⟩, ⟨fun q3558 => (xR_cF rfl rfl rfl (c_102 (((h.2.2.1 (xb_0 q3562)).1 (xb_0 q3560)).1 q3558).1) (by omega) (sg_97_29  ⟨⟨(((h.2.2.1 (xb_0 q3562)).1 (xb_0 q3560)).1 q3558).2.1, (by decide)⟩, ⟨fun q3550 => (xR_cF rfl rfl rfl (c_101 ((((h.2.2.1 (xb_0 q3562)).1 (xb_0 q3560)).1 q3558).2.2.1 q3550).1) (by omega) (sg_97_50  ((((h.2.2.1 (xb_0 q3562)).1 (xb_0 q3560)).1 q3558).2.2.1 q3550).2)), fun q3551 => ⟨⟨h.2.1, (by decide)⟩, ⟨fun q3548 => (xR_cF rfl rfl rfl (c_101 (((((h.2.2.1 (xb_0 q3562)).1 (xb_0 q3560)).1 q3558).2.2.2 q3551).1 q3548).1) (by omega) (sg_97_41  (((((h.2.2.1 (xb_0 q3562)).1 (xb_0 q3560)).1 q3558).2.2.2 q3551).1 q3548).2)), fun q3549 => (xR_cF rfl rfl rfl (c_101 (((((h.2.2.1 (xb_0 q3562)).1 (xb_0 q3560)).1 q3558).2.2.2 q3551).2 q3549).1) (by omega) (sg_97_41  (((((h.2.2.1 (xb_0 q3562)).1 (xb_0 q3560)).1 q3558).2.2.2 q3551).2 q3549).2))⟩⟩⟩⟩)), fun q3559 => ⟨⟨h.2.1, (by decide)⟩, ⟨fun q3556 => (xR_cF rfl rfl rfl (c_101 ((((h.2.2.1 (xb_0 q3562)).1 (xb_0 q3560)).2 q3559).1 q3556).1) (by omega) (sg_97_50  ((((h.2.2.1 (xb_0 q3562)).1 (xb_0 q3560)).2 q3559).1 q3556).2)), fun q3557 => (xR_cF rfl rfl rfl (c_102 ((((h.2.2.1 (xb_0 q3562)).1 (xb_0 q3560)).2 q3559).2 q3557).1) (by omega) (sg_97_29  ⟨⟨((((h.2.2.1 (xb_0 q3562)).1 (xb_0 q3560)).2 q3559).2 q3557).2.1, (by decide)⟩, ⟨fun q3554 => (xR_cF rfl rfl rfl (c_101 (((((h.2.2.1 (xb_0 q3562)).1 (xb_0 q3560)).2 q3559).2 q3557).2.2.1 q3554).1) (by omega) (sg_97_50  (((((h.2.2.1 (xb_0 q3562)).1 (xb_0 q3560)).2 q3559).2 q3557).2.2.1 q3554).2)), fun q3555 => ⟨⟨h.2.1, (by decide)⟩, ⟨fun q3552 => (xR_cF rfl rfl rfl (c_101 ((((((h.2.2.1 (xb_0 q3562)).1 (xb_0 q3560)).2 q3559).2 q3557).2.2.2 q3555).1 q3552).1) (by omega) (sg_97_41  ((((((h.2.2.1 (xb_0 q3562)).1 (xb_0 q3560)).2 q3559).2 q3557).2.2.2 q3555).1 q3552).2)), fun q3553 => (xR_cF rfl rfl rfl (c_101 ((((((h.2.2.1 (xb_0 q3562)).1 (xb_0 q3560)).2 q3559).2 q3557).2.2.2 q3555).2 q3553).1) (by omega) (sg_97_41  ((((((h.2.2.1 (xb_0 q3562)).1 (xb_0 q3560)).2 q3559).2 q3557).2.2.2 q3555).2 q3553).2))⟩⟩⟩⟩))⟩⟩⟩⟩, fun q3561 => (xR_cF rfl rfl rfl (c_99 ((h.2.2.1 (xb_0 q3562)).2 (xb_n0 q3561)).1) (by omega) (sg_97_17  ((h.2.2.1 (xb_0 q3562)).2 (xb_n0 q3561)).2))⟩⟩)), fun q3563 => (xR_cF rfl rfl rfl (c_98 (h.2.2.2 (xb_n0 q3563)).1) (by omega) (sg_97_10  (h.2.2.2 (xb_n0 q3563)).2))⟩⟩)))))
theorem c_97 {I : XI} {L : XL} {D : GD}   {fm : Int} (h : (TPO (I 2) (I 1 (6 : Int)) ∧ (0 ≤ fm ∧ fm < I 1 (6 : Int)) ∧ (0 ≤ I 1 (4 : Int) ∧ I 1 (4 : Int) ≤ 400))) : xM 10 97 [xr (some 1), xi fm] I L (gG D) (0, 0) (xD (some (xi (tke (I 2) (I 1 (6 : Int)) fm))) (xsc (xsc (xsc (xsc I 1 (xup (I 1) (4 : Int) (I 1 (4 : Int) + 1))) 3 (xup (I 3) (I 1 (4 : Int)) (tkk (I 2) (I 1 (6 : Int)) fm))) 4 (xup (I 4) (I 1 (4 : Int)) fm)) 5 (xup (I 5) (I 1 (4 : Int)) (tkv (I 2) (I 1 (6 : Int)) fm))) L (gG D)) := by
  intro d hd
  obtain ⟨hT, h1, h2⟩ := h
  have hT1 := hT.1
  have hdg := tc_dg hT (p := fm) h1.1
  have hlr := tc_lr hT (p := fm) h1.1
  have htr := tc_rg hT fm
  have htr2 := tc_rg hT (fm + 1)
  have e1 : tkk (I 2) (I 1 6) fm = if dgt (I 2) (I 1 6) fm = true then 256 else if ltr (I 2) (I 1 6) fm = true then (if tw (I 2) (I 1 6) fm = -1 then 257 else 260 + tw (I 2) (I 1 6) fm) else if (tc (I 2) (I 1 6) fm = 60 ∨ tc (I 2) (I 1 6) fm = 62) ∧ tc (I 2) (I 1 6) (fm + 1) = 61 then (if tc (I 2) (I 1 6) fm = 60 then 258 else 259) else tc (I 2) (I 1 6) fm := if_neg (fun r => r h1.2)
  have e2 : tke (I 2) (I 1 6) fm = if dgt (I 2) (I 1 6) fm = true then de_ (I 2) (I 1 6) fm else if ltr (I 2) (I 1 6) fm = true then le_ (I 2) (I 1 6) fm else if (tc (I 2) (I 1 6) fm = 60 ∨ tc (I 2) (I 1 6) fm = 62) ∧ tc (I 2) (I 1 6) (fm + 1) = 61 then fm + 2 else fm + 1 := if_neg (fun r => r h1.2)
  have e3 : tkv (I 2) (I 1 6) fm = if dgt (I 2) (I 1 6) fm = true then tnv (I 2) (I 1 6) fm else -1 := rfl
  rw [e1, e2, e3]
  refine w_97 (by omega) ?_
  by_cases d : dgt (I 2) (I 1 6) fm = true
  · simp only [if_pos d]
    have := hdg.mpr d
    repeat' first | (with_reducible intro _) | (with_reducible refine And.intro ?_ ?_)
    all_goals first | omega | exact ⟨hT, by omega⟩ | exact ⟨hT, by omega, by omega⟩ | contradiction | exact xD_in
  · simp only [if_neg d]
    have nd : ¬ (48 ≤ tc (I 2) (I 1 6) fm ∧ tc (I 2) (I 1 6) fm ≤ 57) := fun r => d (hdg.mp r)
    by_cases l : ltr (I 2) (I 1 6) fm = true
    · simp only [if_pos l]
      have := hlr.mpr l
      repeat' first | (with_reducible intro _) | (with_reducible refine And.intro ?_ ?_)
      all_goals first | omega | exact ⟨hT, by omega⟩ | exact ⟨hT, by omega, by omega⟩ | contradiction | exact xD_in
    · simp only [if_neg l]
      have nl : ¬ (97 ≤ tc (I 2) (I 1 6) fm ∧ tc (I 2) (I 1 6) fm ≤ 122) := fun r => l (hlr.mp r)
      by_cases c : (tc (I 2) (I 1 6) fm = 60 ∨ tc (I 2) (I 1 6) fm = 62) ∧ tc (I 2) (I 1 6) (fm + 1) = 61
      · simp only [if_pos c]
        by_cases c6 : tc (I 2) (I 1 6) fm = 60
        · simp only [if_pos c6]
          repeat' first | (with_reducible intro _) | (with_reducible refine And.intro ?_ ?_)
          all_goals first | omega | exact ⟨hT, by omega⟩ | exact ⟨hT, by omega, by omega⟩ | contradiction | exact xD_in
        · simp only [if_neg c6]
          repeat' first | (with_reducible intro _) | (with_reducible refine And.intro ?_ ?_)
          all_goals first | omega | exact ⟨hT, by omega⟩ | exact ⟨hT, by omega, by omega⟩ | contradiction | exact xD_in
      · simp only [if_neg c]
        repeat' first | (with_reducible intro _) | (with_reducible refine And.intro ?_ ?_)
        all_goals first | omega | exact ⟨hT, by omega⟩ | exact ⟨hT, by omega, by omega⟩ | contradiction | exact xD_in
