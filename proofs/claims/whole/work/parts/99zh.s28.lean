theorem R3_fr {rc rs f1 f2 : Int} {D : GD} {k0 s0 k1 s1 k2 s2 k3 s3 k4 s4 k5 s5 sg cl cn sg2 cl2 cn2 : Int → Int} (h : R3 rc rs f1 f2 D k0 s0 k1 s1 k2 s2 k3 s3 k4 s4 k5 s5 sg cl cn) (hg : ∀ j, j < 400 * (D.1 : Int) ∨ 400 * (D.1 : Int) + 400 ≤ j → sg2 j = sg j) (hc : ∀ j, j < 48 * (D.1 : Int) ∨ 48 * (D.1 : Int) + 48 ≤ j → cl2 j = cl j) (hn : ∀ j, ¬ j = (D.1 : Int) → cn2 j = cn j) (hB : RB cl2) : R3 rc rs f1 f2 D k0 s0 k1 s1 k2 s2 k3 s3 k4 s4 k5 s5 sg2 cl2 cn2 := by
  obtain ⟨h1, h2, h3, h4, h5, h6, h7, h8⟩ := h
  have pq : ∀ (f : Int) (w : Int → Int64), 0 ≤ f → f < (D.1 : Int) → prl sg2 cl2 w f (cn2 f).toNat 0 = prl sg cl w f (cn f).toNat 0 := by
    intro f w f0 f1
    have hr := (h7 f (by omega) f1).2.2 f0
    rw [hn f (by omega)]
    exact prl_fr (fun j j0 j1 => hg j (by omega)) (fun j j0 j1 => hc j (by omega)) _ _ (by omega) (by omega)
  refine ⟨h1, h2, h3, h4, h5, h6, fun f f0 f1 => ⟨f0, (h7 f f0 f1).2.1, fun f2 => ?_⟩, fun f f0 f1 => ?_⟩
  · have hr := (h7 f f0 f1).2.2 f2
    refine ⟨by rw [hn f (by omega)]; exact hr.1, hB, fun w => ?_⟩
    rw [pq f w f2 f1]
    exact hr.2.2 w
  · rw [h8 f f0 f1]
    funext w
    unfold pR
    rw [pq f w f0 f1]
theorem R3_new {r : Nat} {D2 : (Nat → Nat) × (Nat → Nat) × ((Int → Int) × Nat)} {rc rs f1 f2 : Int} {k0 s0 k1 s1 k2 s2 k3 s3 k4 s4 k5 s5 k0' s0' k1' s1' k2' s2' k3' s3' k4' s4' k5' s5' sg cl cn sg2 cl2 cn2 F G : Int → Int} {M : List (List Int × List Int)} {i0 z z2 : Int} (hr : r < 6) (h : R3 rc rs f1 f2 (r, D2) k0 s0 k1 s1 k2 s2 k3 s3 k4 s4 k5 s5 sg cl cn) (hsk : ∀ f : Int, 0 ≤ f → f < (r : Int) → csel f k0' k1' k2' k3' k4' k5' = csel f k0 k1 k2 k3 k4 k5) (hss : ∀ f : Int, 0 ≤ f → f < (r : Int) → csel f s0' s1' s2' s3' s4' s5' = csel f s0 s1 s2 s3 s4 s5) (hkF : csel (r : Int) k0' k1' k2' k3' k4' k5' = F) (hsG : csel (r : Int) s0' s1' s2' s3' s4' s5' = G) (hg : ∀ j, j < 400 * (r : Int) ∨ 400 * (r : Int) + 400 ≤ j → sg2 j = sg j) (hc : ∀ j, j < 48 * (r : Int) ∨ 48 * (r : Int) + 48 ≤ j → cl2 j = cl j) (hn : ∀ j, ¬ j = (r : Int) → cn2 j = cn j) (hB : RB cl2) (hC : CLD sg2 cl2 (r : Int) M 0 0 z) (hz : z ≤ 400) (hcn : (M.length : Int) = cn2 (r : Int)) (hM : (M.length : Int) = i0 + 1) (hi : 0 ≤ i0 ∧ i0 < 12) (hK : KCD F G M 0 0 z2) (hz2 : 0 ≤ z2 ∧ z2 ≤ 400) (hG : RB G) (hW : ∀ c ∈ M, WFc c) : R3 ((r : Int) + 1) ((r : Int) + 1) f1 f2 (gD1 r D2 z2.toNat (2 * i0 + 3).toNat) k0' s0' k1' s1' k2' s2' k3' s3' k4' s4' k5' s5' sg2 cl2 cn2 := by
  have hR := R3_fr h hg hc hn hB
  obtain ⟨h1, h2, h3, h4, h5, h6, h7, h8⟩ := hR
  have h5' : -1 ≤ f1 ∧ f1 < (r : Int) := h5
  have key : ∀ w, ∃ v, prl sg2 cl2 w (r : Int) M.length 0 = some v ∧ crl F G z2.toNat w M.length (2 * 0) = some v := fun w => rule_eq (by omega) M 0 0 z 0 0 z2 hC hK hW (by omega) hz (by omega) (by omega)
  have hD : (gD1 r D2 z2.toNat (2 * i0 + 3).toNat).1 = r + 1 := rfl
  have cnew : ∀ w, cRo k0' s0' k1' s1' k2' s2' k3' s3' k4' s4' k5' s5' (gD1 r D2 z2.toNat (2 * i0 + 3).toNat) (r : Int) w = crl F G z2.toNat w M.length (2 * 0) := by
    intro w
    unfold cRo
    rw [hkF, hsG, Int.toNat_natCast]
    show crl F G (if r = r then z2.toNat else D2.1 r) w (((if r = r then (2 * i0 + 3).toNat else D2.2.1 r) - 1) / 2) 0 = _
    rw [if_pos rfl, if_pos rfl, show ((2 * i0 + 3).toNat - 1) / 2 = M.length by omega]
    rfl
  have cold : ∀ (f : Int) (w : Int → Int64), 0 ≤ f → f < (r : Int) → cRo k0' s0' k1' s1' k2' s2' k3' s3' k4' s4' k5' s5' (gD1 r D2 z2.toNat (2 * i0 + 3).toNat) f w = cRo k0 s0 k1 s1 k2 s2 k3 s3 k4 s4 k5 s5 (r, D2) f w := by
    intro f w f0 f1
    unfold cRo
    rw [hsk f f0 f1, hss f f0 f1]
    show crl _ _ (if f.toNat = r then z2.toNat else D2.1 f.toNat) w (((if f.toNat = r then (2 * i0 + 3).toNat else D2.2.1 f.toNat) - 1) / 2) 0 = _
    rw [if_neg (by omega), if_neg (by omega)]
  refine ⟨by rw [hD]; omega, by rw [hD]; omega, by rw [hD]; omega, h4, by rw [hD]; omega, fun f f0 f1 => ?_, fun f f0 f1 => ?_, fun f f0 f1 => ?_⟩
  · rw [hD] at f1
    refine ⟨f0, by rw [hD]; exact f1, by rw [hD]; omega, fun f2 => ?_⟩
    by_cases c : f = (r : Int)
    · subst c
      refine ⟨⟨i0.toNat + 1, ?_, by omega⟩, by rw [hsG]; exact hG, fun w => ?_⟩
      · rw [Int.toNat_natCast]
        show (if r = r then (2 * i0 + 3).toNat else D2.2.1 r) = _
        rw [if_pos rfl]; omega
      · obtain ⟨v, -, hv⟩ := key w
        rw [cnew w, hv]
        rfl
    · have hold := (h6 f f0 (by show f < (r : Int); omega)).2.2.2 f2
      refine ⟨?_, by rw [hss f f2 (by omega)]; exact hold.2.1, fun w => by rw [cold f w f2 (by omega)]; exact hold.2.2 w⟩
      obtain ⟨n, hn1, hn2⟩ := hold.1
      refine ⟨n, ?_, hn2⟩
      show (if f.toNat = r then (2 * i0 + 3).toNat else D2.2.1 f.toNat) = _
      rw [if_neg (by omega)]; exact hn1
  · rw [hD] at f1
    by_cases c : f = (r : Int)
    · subst c
      refine ⟨f0, by omega, fun _ => ⟨by omega, hB, fun w => ?_⟩⟩
      obtain ⟨v, hv, -⟩ := key w
      rw [← hcn, Int.toNat_natCast, hv]
      rfl
    · exact h7 f f0 (by show f < (r : Int); omega)
  · rw [hD] at f1
    by_cases c : f = (r : Int)
    · subst c
      funext w
      unfold cR pR
      obtain ⟨v, hv, hv2⟩ := key w
      rw [cnew w, hv2, ← hcn, Int.toNat_natCast, hv]
    · rw [← h8 f f0 (by show f < (r : Int); omega)]
      funext w
      unfold cR
      rw [cold f w f0 (by omega)]
theorem R7.mono {k m1 m2 : Int} {S F Kd Z Tr Lk Wt T O U N1 N2 N3 Im Fo Xs : Int → Int} {rs rs2 : Int} (h : R7 k m1 m2 S F Kd Z Tr Lk Wt T O U N1 N2 N3 Im Fo Xs rs) (hle : rs ≤ rs2) : R7 k m1 m2 S F Kd Z Tr Lk Wt T O U N1 N2 N3 Im Fo Xs rs2 := by
  obtain ⟨h1, h2, h3, h4⟩ := h
  refine ⟨h1, h2, h3, fun hm => ?_⟩
  obtain ⟨a1, ⟨a2, a3, a4⟩, a5, a6⟩ := h4 hm
  exact ⟨a1, ⟨a2, a3, by omega⟩, a5, a6⟩
set_option maxRecDepth 8000 in
theorem lwA {d c s : Nat} {I : XI} {L : XL} {G : XG} {post : XQ} {i : Int} (h : xR d 264 es_264 104 [xt 2, xr (some 0), xr (some 101), xi i] [xr (some 0)] I L G c s post) : xR d 264 es_264 103 [xt 2, xr (some 0), xr (some 101), xi i] [] I L G c s post := xW_R (fun k => Nat.beq k 104) 1 _ _ _ _ _ _ _ _ _ _ _ _ h
set_option maxRecDepth 8000 in
theorem lwB {d c s : Nat} {I : XI} {L : XL} {G : XG} {post : XQ} {i v : Int} (h : xR d 264 es_264 106 [xt 2, xr (some 0), xr (some 101), xi i] [xr (some 101), xi v] I L G c s post) : xR d 264 es_264 105 [xt 2, xr (some 0), xr (some 101), xi i] [xi v] I L G c s post := xW_R (fun k => Nat.beq k 106) 1 _ _ _ _ _ _ _ _ _ _ _ _ h
set_option maxRecDepth 8000 in
theorem lwC {d c s : Nat} {I : XI} {L : XL} {G : XG} {post : XQ} {i v u : Int} (h : (xrg v ∧ xrg u) ∧ ((v = u → xR d 264 es_264 10 [xt 2, xr (some 0), xr (some 101), xi (i + 6)] [] I L G c s post) ∧ (¬ v = u → ((0 : Int) = 0 ∨ (0 : Int) = 1) ∧ post (some (xi 0)) I L G))) : xR d 264 es_264 107 [xt 2, xr (some 0), xr (some 101), xi i] [xi u, xi v] I L G c s post := xW_R (fun k => Nat.beq k 10) 3 _ _ _ _ _ _ _ _ _ _ _ _ h
theorem lr_0 {I : XI} {L : XL} {D2 : (Nat → Nat) × (Nat → Nat) × ((Int → Int) × Nat)} {d c s : Nat} {post : XQ} {i : Int} (hd : 100 ≤ d) (hrel : REL I (0, D2)) (hc : 3 ≤ c) (hs : 802 ≤ s) (hg : ∀ I2 L2 D3, REL I2 D3 → D3.2.2.2 = D2.2.2 → xR d 264 es_264 10 [xt 2, xr (some 0), xr (some 101), xi (i + 6)] [] I2 L2 (gG D3) (c - 3) (s - 802) post) : xR d 264 es_264 103 [xt 2, xr (some 0), xr (some 101), xi i] [] I L (gG (0, D2)) c s post := by
  obtain ⟨h1, h2, h3, h4, h5, h6, ⟨h70, h71, h72, h73⟩, h8⟩ := hrel
  have hT : TPO (I 2) (I 1 6) := ⟨h1.2.1, h1.2.2.2⟩
  have e04 : I 0 4 = 0 := h3.1
  have e12 : I 101 2 = 0 := h3.2.1
  have eb : I 102 = I 2 := h1.2.2.1.symm
  have en : I 101 1 = I 1 6 := h1.1.symm
  have xc : ∀ {st : List XV} {n rt m' kd : Nat} {G : XG}, (Nat.ble n st.length && Nat.ble (xents (st.take n).reverse).length (mL m') && (Nat.beq rt 0 || (match st[n - 1]? with
    | some (.inr (.inr (.inl (some i)))) => Nat.beq (G.2.1 i).1 rt
    | _ => false)) && Nat.ble kd 3 && Nat.ble (xwds (st.drop n)) 8) = true → xcc st n rt m' kd G c 3 s 802 = true := by
    intro st n rt m' kd G h
    unfold xcc
    rw [Bool.and_eq_true, Bool.and_eq_true, Nat.ble_eq, Nat.ble_eq]
    exact ⟨⟨h, hc⟩, hs⟩
  refine lwA ?_
  refine xR_cQ rfl rfl (xc rfl) (c116_0 hT h8.2.2.2.1 e04) (by omega) (fun r2 I2 L2 G2 hq => ?_)
  rcases hq with ⟨X, U, C, s9, P3, P4, P5, hf, rfl, rfl, rfl, rfl⟩ | ⟨X, U, C, s9, P3, P4, P5, f, g, i0, M, hsu, hfa, hga, hgB, rfl, rfl, rfl, rfl⟩
  · refine lwB ?_
    refine xR_cQ rfl rfl rfl (c_185_r ⟨by show TPO (I 102) (I 101 1); rw [eb, en]; exact hT, by show 0 ≤ I 101 2 ∧ I 101 2 ≤ 6; omega⟩) (by omega) (fun r2 I2 L2 G2 hq => ?_)
    obtain ⟨T9, g9, l9, c9, n9, R9, M9, r9, hu, rfl, rfl, rfl, rfl⟩ := hq
    have hu2 := hu.2 (by show ¬ I 101 2 = 6; omega)
    obtain ⟨⟨u1, u2, u3, u4, u5, u6⟩, hcase⟩ := hu2
    obtain ⟨fB, f6, f0, frg, fQ⟩ := hf
    have fQ' : Q (I 102) (I 101 1) s00 (sX (X 10)) := by rw [eb, en]; exact fQ
    rcases hcase with ⟨W, w0, wrg, wQ, rfl, w2⟩ | ⟨yQ, -⟩
    · have hW : X 10 = W := Q_XX (fQ'.sy.tr wQ)
      rw [Nat.sub_zero, Nat.sub_zero]
      refine lwC ⟨⟨⟨by omega, by omega⟩, ⟨by omega, by omega⟩⟩, fun _ => ?_, fun r => absurd (by rw [hW]) r⟩
      refine hg _ _ (0, D2) ?_ rfl
      have u2' : ∀ j, j < 400 * ((0 : Nat) : Int) ∨ 400 * ((0 : Nat) : Int) + 400 ≤ j → g9 j = I 103 j := fun j hj => u2 j (by show j < 400 * I 101 2 ∨ 400 * I 101 2 + 400 ≤ j; rw [e12]; exact hj)
      have u3' : ∀ j, j < 48 * ((0 : Nat) : Int) ∨ 48 * ((0 : Nat) : Int) + 48 ≤ j → c9 j = I 105 j := fun j hj => u3 j (by show j < 48 * I 101 2 ∨ 48 * I 101 2 + 48 ≤ j; rw [e12]; exact hj)
      have u4' : ∀ j, ¬ j = ((0 : Nat) : Int) → n9 j = I 106 j := fun j hj => u4 j (by show ¬ j = I 101 2; rw [e12]; exact hj)
      have hcB : RB c9 := u5 h8.2.2.2.2
      have w2' : T9 2 = I 101 2 := w2
      have t21 : T9 21 = I 101 21 := u1 21 (by omega)
      have t22 : T9 22 = I 101 22 := u1 22 (by omega)
      have t23 : T9 23 = I 101 23 := u1 23 (by omega)
      have t25 : T9 25 = I 101 25 := u1 25 (by omega)
      refine ⟨⟨by show (0 : Int) = T9 1; omega, ⟨by show (0 : Int) ≤ 0; decide, by show (0 : Int) ≤ 400; decide⟩, h1.2.2.1, fun j j0 j1 => absurd (show j < 0 from j1) (by omega)⟩, h2, ?_, ?_, ?_, ?_, ⟨?_, ?_, ?_, ?_⟩, ⟨h8.1, h8.2.1, h8.2.2.1, fB, hcB⟩⟩
      · have h9 := R3_fr h3 u2' u3' u4' hcB
        rw [← w2', ← t21] at h9
        exact h9
      · rw [← t22] at h4; exact h4
      · rw [← t23] at h5; exact h5
      · rw [← t25] at h6; exact h6
      · rw [← w2'] at h70; exact h70
      · rw [← w2'] at h71; exact h71
      · rw [← w2'] at h72; exact h72
      · rw [← w2'] at h73; exact h73
    · exact absurd (Q_XY (fQ'.sy.tr yQ)) f0
  · refine lwB ?_
    refine xR_cQ rfl rfl rfl (c_185_r ⟨by show TPO (I 102) (I 101 1); rw [eb, en]; exact hT, by show 0 ≤ I 101 2 ∧ I 101 2 ≤ 6; omega⟩) (by omega) (fun r2 I2 L2 G2 hq => ?_)
    obtain ⟨T9, g9, l9, c9, n9, R9, M9, r9, hu, rfl, rfl, rfl, rfl⟩ := hq
    have hu2 := hu.2 (by show ¬ I 101 2 = 6; omega)
    obtain ⟨⟨u1, u2, u3, u4, u5, u6⟩, hcase⟩ := hu2
    obtain ⟨f6, fi, fM, fz, fK, fQ, fB⟩ := hsu
    have fQ' : Q (I 102) (I 101 1) s00 (sY M) := by rw [eb, en]; exact fQ
    rcases hcase with ⟨W, w0, wrg, wQ, -⟩ | ⟨yQ, ⟨z, yC, yz⟩, yn, yn2, rfl, w2⟩
    · exact absurd (Q_XY (wQ.sy.tr fQ')) w0
    · have hM : M = M9 := Q_YY (fQ'.sy.tr yQ)
      subst hM
      have w2' : T9 2 = I 101 2 + 1 := w2
      rw [Nat.sub_zero, Nat.sub_zero]
      refine lwC ⟨⟨⟨by decide, by decide⟩, ⟨by show -2147483648 ≤ I 101 2; omega, by show I 101 2 ≤ 2147483647; omega⟩⟩, fun _ => ?_, fun r => absurd (show (0 : Int) = I 101 2 by omega) r⟩
      refine hg _ _ _ ?_ rfl
      have yC' : CLD g9 c9 ((0 : Nat) : Int) M 0 0 z := by have h9 : CLD g9 c9 (I 101 2) M 0 0 z := yC; rw [e12] at h9; exact h9
      have yn' : (M.length : Int) = n9 ((0 : Nat) : Int) := by have h9 : (M.length : Int) = n9 (I 101 2) := yn; rw [e12] at h9; exact h9
      have u2' : ∀ j, j < 400 * ((0 : Nat) : Int) ∨ 400 * ((0 : Nat) : Int) + 400 ≤ j → g9 j = I 103 j := fun j hj => u2 j (by show j < 400 * I 101 2 ∨ 400 * I 101 2 + 400 ≤ j; rw [e12]; exact hj)
      have u3' : ∀ j, j < 48 * ((0 : Nat) : Int) ∨ 48 * ((0 : Nat) : Int) + 48 ≤ j → c9 j = I 105 j := fun j hj => u3 j (by show j < 48 * I 101 2 ∨ 48 * I 101 2 + 48 ≤ j; rw [e12]; exact hj)
      have u4' : ∀ j, ¬ j = ((0 : Nat) : Int) → n9 j = I 106 j := fun j hj => u4 j (by show ¬ j = I 101 2; rw [e12]; exact hj)
      have hcB : RB c9 := u5 h8.2.2.2.2
      have hKf : KCD f g M 0 0 (U 3) := KCD.rb fK hfa hga (by omega) (fun r => by rw [r] at fM; have : ((0 : Nat) : Int) = i0 + 1 := fM; omega)
      have t21 : T9 21 = I 101 21 := u1 21 (by omega)
      have t22 : T9 22 = I 101 22 := u1 22 (by omega)
      have t23 : T9 23 = I 101 23 := u1 23 (by omega)
      have t25 : T9 25 = I 101 25 := u1 25 (by omega)
      refine ⟨⟨by show (0 : Int) = T9 1; omega, ⟨by show (0 : Int) ≤ 0; decide, by show (0 : Int) ≤ 400; decide⟩, h1.2.2.1, fun j j0 j1 => absurd (show j < 0 from j1) (by omega)⟩, h2, ?_, ?_, ?_, ?_, ⟨?_, ?_, ?_, ?_⟩, ⟨h8.1, h8.2.1, h8.2.2.1, fB, hcB⟩⟩
      · have hA9 : ∀ x9 : Int, 0 ≤ x9 → x9 < ((0 : Nat) : Int) → csel x9 f (I 130) (I 133) (I 136) (I 139) (I 142) = csel x9 (I 127) (I 130) (I 133) (I 136) (I 139) (I 142) := fun x9 f0 f1 => by omega
        have hB9 : ∀ x9 : Int, 0 ≤ x9 → x9 < ((0 : Nat) : Int) → csel x9 g (I 131) (I 134) (I 137) (I 140) (I 143) = csel x9 (I 128) (I 131) (I 134) (I 137) (I 140) (I 143) := fun x9 f0 f1 => by omega
        have h9 := R3_new (r := 0) (by decide) h3 hA9 hB9 (show csel ((0 : Nat) : Int) f (I 130) (I 133) (I 136) (I 139) (I 142) = f from rfl) (show csel ((0 : Nat) : Int) g (I 131) (I 134) (I 137) (I 140) (I 143) = g from rfl) u2' u3' u4' hcB yC' yz.2 yn' fM fi hKf fz hgB (s00_wf yQ)
        have h10 : ∀ x y : Int, x = ((0 : Nat) : Int) + 1 → y = I 101 21 → R3 (((0 : Nat) : Int) + 1) x (I 6 2) y (gD1 0 D2 (U 3).toNat (2 * i0 + 3).toNat) f g (I 130) (I 131) (I 133) (I 134) (I 136) (I 137) (I 139) (I 140) (I 142) (I 143) g9 c9 n9 := by
          intro x y hx hy
          rw [hx, hy]
          exact h9
        exact h10 _ _ (show T9 2 = ((0 : Nat) : Int) + 1 by omega) t21
      · rw [← t22] at h4; exact h4
      · rw [← t23] at h5; exact h5
      · rw [← t25] at h6; exact h6
      · exact h70.mono (by show I 101 2 ≤ T9 2; omega)
      · exact h71.mono (by show I 101 2 ≤ T9 2; omega)
      · exact h72.mono (by show I 101 2 ≤ T9 2; omega)
      · exact h73.mono (by show I 101 2 ≤ T9 2; omega)
theorem lr_1 {I : XI} {L : XL} {D2 : (Nat → Nat) × (Nat → Nat) × ((Int → Int) × Nat)} {d c s : Nat} {post : XQ} {i : Int} (hd : 100 ≤ d) (hrel : REL I (1, D2)) (hc : 3 ≤ c) (hs : 802 ≤ s) (hg : ∀ I2 L2 D3, REL I2 D3 → D3.2.2.2 = D2.2.2 → xR d 264 es_264 10 [xt 2, xr (some 0), xr (some 101), xi (i + 6)] [] I2 L2 (gG D3) (c - 3) (s - 802) post) : xR d 264 es_264 103 [xt 2, xr (some 0), xr (some 101), xi i] [] I L (gG (1, D2)) c s post := by
  obtain ⟨h1, h2, h3, h4, h5, h6, ⟨h70, h71, h72, h73⟩, h8⟩ := hrel
  have hT : TPO (I 2) (I 1 6) := ⟨h1.2.1, h1.2.2.2⟩
  have e04 : I 0 4 = 1 := h3.1
  have e12 : I 101 2 = 1 := h3.2.1
  have eb : I 102 = I 2 := h1.2.2.1.symm
  have en : I 101 1 = I 1 6 := h1.1.symm
  have xc : ∀ {st : List XV} {n rt m' kd : Nat} {G : XG}, (Nat.ble n st.length && Nat.ble (xents (st.take n).reverse).length (mL m') && (Nat.beq rt 0 || (match st[n - 1]? with
    | some (.inr (.inr (.inl (some i)))) => Nat.beq (G.2.1 i).1 rt
    | _ => false)) && Nat.ble kd 3 && Nat.ble (xwds (st.drop n)) 8) = true → xcc st n rt m' kd G c 3 s 802 = true := by
    intro st n rt m' kd G h
    unfold xcc
    rw [Bool.and_eq_true, Bool.and_eq_true, Nat.ble_eq, Nat.ble_eq]
    exact ⟨⟨h, hc⟩, hs⟩
  refine lwA ?_
  refine xR_cQ rfl rfl (xc rfl) (c116_1 hT h8.2.2.2.1 e04) (by omega) (fun r2 I2 L2 G2 hq => ?_)
  rcases hq with ⟨X, U, C, s9, P3, P4, P5, hf, rfl, rfl, rfl, rfl⟩ | ⟨X, U, C, s9, P3, P4, P5, f, g, i0, M, hsu, hfa, hga, hgB, rfl, rfl, rfl, rfl⟩
  · refine lwB ?_
    refine xR_cQ rfl rfl rfl (c_185_r ⟨by show TPO (I 102) (I 101 1); rw [eb, en]; exact hT, by show 0 ≤ I 101 2 ∧ I 101 2 ≤ 6; omega⟩) (by omega) (fun r2 I2 L2 G2 hq => ?_)
    obtain ⟨T9, g9, l9, c9, n9, R9, M9, r9, hu, rfl, rfl, rfl, rfl⟩ := hq
    have hu2 := hu.2 (by show ¬ I 101 2 = 6; omega)
    obtain ⟨⟨u1, u2, u3, u4, u5, u6⟩, hcase⟩ := hu2
    obtain ⟨fB, f6, f0, frg, fQ⟩ := hf
    have fQ' : Q (I 102) (I 101 1) s00 (sX (X 10)) := by rw [eb, en]; exact fQ
    rcases hcase with ⟨W, w0, wrg, wQ, rfl, w2⟩ | ⟨yQ, -⟩
    · have hW : X 10 = W := Q_XX (fQ'.sy.tr wQ)
      rw [Nat.sub_zero, Nat.sub_zero]
      refine lwC ⟨⟨⟨by omega, by omega⟩, ⟨by omega, by omega⟩⟩, fun _ => ?_, fun r => absurd (by rw [hW]) r⟩
      refine hg _ _ (1, D2) ?_ rfl
      have u2' : ∀ j, j < 400 * ((1 : Nat) : Int) ∨ 400 * ((1 : Nat) : Int) + 400 ≤ j → g9 j = I 103 j := fun j hj => u2 j (by show j < 400 * I 101 2 ∨ 400 * I 101 2 + 400 ≤ j; rw [e12]; exact hj)
      have u3' : ∀ j, j < 48 * ((1 : Nat) : Int) ∨ 48 * ((1 : Nat) : Int) + 48 ≤ j → c9 j = I 105 j := fun j hj => u3 j (by show j < 48 * I 101 2 ∨ 48 * I 101 2 + 48 ≤ j; rw [e12]; exact hj)
      have u4' : ∀ j, ¬ j = ((1 : Nat) : Int) → n9 j = I 106 j := fun j hj => u4 j (by show ¬ j = I 101 2; rw [e12]; exact hj)
      have hcB : RB c9 := u5 h8.2.2.2.2
      have w2' : T9 2 = I 101 2 := w2
      have t21 : T9 21 = I 101 21 := u1 21 (by omega)
      have t22 : T9 22 = I 101 22 := u1 22 (by omega)
      have t23 : T9 23 = I 101 23 := u1 23 (by omega)
      have t25 : T9 25 = I 101 25 := u1 25 (by omega)
      refine ⟨⟨by show (0 : Int) = T9 1; omega, ⟨by show (0 : Int) ≤ 0; decide, by show (0 : Int) ≤ 400; decide⟩, h1.2.2.1, fun j j0 j1 => absurd (show j < 0 from j1) (by omega)⟩, h2, ?_, ?_, ?_, ?_, ⟨?_, ?_, ?_, ?_⟩, ⟨h8.1, h8.2.1, h8.2.2.1, fB, hcB⟩⟩
      · have h9 := R3_fr h3 u2' u3' u4' hcB
        rw [← w2', ← t21] at h9
        exact h9
      · rw [← t22] at h4; exact h4
      · rw [← t23] at h5; exact h5
      · rw [← t25] at h6; exact h6
      · rw [← w2'] at h70; exact h70
      · rw [← w2'] at h71; exact h71
      · rw [← w2'] at h72; exact h72
      · rw [← w2'] at h73; exact h73
    · exact absurd (Q_XY (fQ'.sy.tr yQ)) f0
  · refine lwB ?_
    refine xR_cQ rfl rfl rfl (c_185_r ⟨by show TPO (I 102) (I 101 1); rw [eb, en]; exact hT, by show 0 ≤ I 101 2 ∧ I 101 2 ≤ 6; omega⟩) (by omega) (fun r2 I2 L2 G2 hq => ?_)
    obtain ⟨T9, g9, l9, c9, n9, R9, M9, r9, hu, rfl, rfl, rfl, rfl⟩ := hq
    have hu2 := hu.2 (by show ¬ I 101 2 = 6; omega)
    obtain ⟨⟨u1, u2, u3, u4, u5, u6⟩, hcase⟩ := hu2
    obtain ⟨f6, fi, fM, fz, fK, fQ, fB⟩ := hsu
    have fQ' : Q (I 102) (I 101 1) s00 (sY M) := by rw [eb, en]; exact fQ
    rcases hcase with ⟨W, w0, wrg, wQ, -⟩ | ⟨yQ, ⟨z, yC, yz⟩, yn, yn2, rfl, w2⟩
    · exact absurd (Q_XY (wQ.sy.tr fQ')) w0
    · have hM : M = M9 := Q_YY (fQ'.sy.tr yQ)
      subst hM
      have w2' : T9 2 = I 101 2 + 1 := w2
      rw [Nat.sub_zero, Nat.sub_zero]
      refine lwC ⟨⟨⟨by decide, by decide⟩, ⟨by show -2147483648 ≤ I 101 2; omega, by show I 101 2 ≤ 2147483647; omega⟩⟩, fun _ => ?_, fun r => absurd (show (1 : Int) = I 101 2 by omega) r⟩
      refine hg _ _ _ ?_ rfl
      have yC' : CLD g9 c9 ((1 : Nat) : Int) M 0 0 z := by have h9 : CLD g9 c9 (I 101 2) M 0 0 z := yC; rw [e12] at h9; exact h9
      have yn' : (M.length : Int) = n9 ((1 : Nat) : Int) := by have h9 : (M.length : Int) = n9 (I 101 2) := yn; rw [e12] at h9; exact h9
      have u2' : ∀ j, j < 400 * ((1 : Nat) : Int) ∨ 400 * ((1 : Nat) : Int) + 400 ≤ j → g9 j = I 103 j := fun j hj => u2 j (by show j < 400 * I 101 2 ∨ 400 * I 101 2 + 400 ≤ j; rw [e12]; exact hj)
      have u3' : ∀ j, j < 48 * ((1 : Nat) : Int) ∨ 48 * ((1 : Nat) : Int) + 48 ≤ j → c9 j = I 105 j := fun j hj => u3 j (by show j < 48 * I 101 2 ∨ 48 * I 101 2 + 48 ≤ j; rw [e12]; exact hj)
      have u4' : ∀ j, ¬ j = ((1 : Nat) : Int) → n9 j = I 106 j := fun j hj => u4 j (by show ¬ j = I 101 2; rw [e12]; exact hj)
      have hcB : RB c9 := u5 h8.2.2.2.2
      have hKf : KCD f g M 0 0 (U 3) := KCD.rb fK hfa hga (by omega) (fun r => by rw [r] at fM; have : ((0 : Nat) : Int) = i0 + 1 := fM; omega)
      have t21 : T9 21 = I 101 21 := u1 21 (by omega)
      have t22 : T9 22 = I 101 22 := u1 22 (by omega)
      have t23 : T9 23 = I 101 23 := u1 23 (by omega)
      have t25 : T9 25 = I 101 25 := u1 25 (by omega)
      refine ⟨⟨by show (0 : Int) = T9 1; omega, ⟨by show (0 : Int) ≤ 0; decide, by show (0 : Int) ≤ 400; decide⟩, h1.2.2.1, fun j j0 j1 => absurd (show j < 0 from j1) (by omega)⟩, h2, ?_, ?_, ?_, ?_, ⟨?_, ?_, ?_, ?_⟩, ⟨h8.1, h8.2.1, h8.2.2.1, fB, hcB⟩⟩
      · have hA9 : ∀ x9 : Int, 0 ≤ x9 → x9 < ((1 : Nat) : Int) → csel x9 (I 127) f (I 133) (I 136) (I 139) (I 142) = csel x9 (I 127) (I 130) (I 133) (I 136) (I 139) (I 142) := fun x9 f0 f1 => by
          have h9 : x9 = 0 := by omega
          rcases h9 with rfl <;> rfl
        have hB9 : ∀ x9 : Int, 0 ≤ x9 → x9 < ((1 : Nat) : Int) → csel x9 (I 128) g (I 134) (I 137) (I 140) (I 143) = csel x9 (I 128) (I 131) (I 134) (I 137) (I 140) (I 143) := fun x9 f0 f1 => by
          have h9 : x9 = 0 := by omega
          rcases h9 with rfl <;> rfl
        have h9 := R3_new (r := 1) (by decide) h3 hA9 hB9 (show csel ((1 : Nat) : Int) (I 127) f (I 133) (I 136) (I 139) (I 142) = f from rfl) (show csel ((1 : Nat) : Int) (I 128) g (I 134) (I 137) (I 140) (I 143) = g from rfl) u2' u3' u4' hcB yC' yz.2 yn' fM fi hKf fz hgB (s00_wf yQ)
        have h10 : ∀ x y : Int, x = ((1 : Nat) : Int) + 1 → y = I 101 21 → R3 (((1 : Nat) : Int) + 1) x (I 6 2) y (gD1 1 D2 (U 3).toNat (2 * i0 + 3).toNat) (I 127) (I 128) f g (I 133) (I 134) (I 136) (I 137) (I 139) (I 140) (I 142) (I 143) g9 c9 n9 := by
          intro x y hx hy
          rw [hx, hy]
          exact h9
        exact h10 _ _ (show T9 2 = ((1 : Nat) : Int) + 1 by omega) t21
      · rw [← t22] at h4; exact h4
      · rw [← t23] at h5; exact h5
      · rw [← t25] at h6; exact h6
      · exact h70.mono (by show I 101 2 ≤ T9 2; omega)
      · exact h71.mono (by show I 101 2 ≤ T9 2; omega)
      · exact h72.mono (by show I 101 2 ≤ T9 2; omega)
      · exact h73.mono (by show I 101 2 ≤ T9 2; omega)
theorem lr_2 {I : XI} {L : XL} {D2 : (Nat → Nat) × (Nat → Nat) × ((Int → Int) × Nat)} {d c s : Nat} {post : XQ} {i : Int} (hd : 100 ≤ d) (hrel : REL I (2, D2)) (hc : 3 ≤ c) (hs : 802 ≤ s) (hg : ∀ I2 L2 D3, REL I2 D3 → D3.2.2.2 = D2.2.2 → xR d 264 es_264 10 [xt 2, xr (some 0), xr (some 101), xi (i + 6)] [] I2 L2 (gG D3) (c - 3) (s - 802) post) : xR d 264 es_264 103 [xt 2, xr (some 0), xr (some 101), xi i] [] I L (gG (2, D2)) c s post := by
  obtain ⟨h1, h2, h3, h4, h5, h6, ⟨h70, h71, h72, h73⟩, h8⟩ := hrel
  have hT : TPO (I 2) (I 1 6) := ⟨h1.2.1, h1.2.2.2⟩
  have e04 : I 0 4 = 2 := h3.1
  have e12 : I 101 2 = 2 := h3.2.1
  have eb : I 102 = I 2 := h1.2.2.1.symm
  have en : I 101 1 = I 1 6 := h1.1.symm
  have xc : ∀ {st : List XV} {n rt m' kd : Nat} {G : XG}, (Nat.ble n st.length && Nat.ble (xents (st.take n).reverse).length (mL m') && (Nat.beq rt 0 || (match st[n - 1]? with
    | some (.inr (.inr (.inl (some i)))) => Nat.beq (G.2.1 i).1 rt
    | _ => false)) && Nat.ble kd 3 && Nat.ble (xwds (st.drop n)) 8) = true → xcc st n rt m' kd G c 3 s 802 = true := by
    intro st n rt m' kd G h
    unfold xcc
    rw [Bool.and_eq_true, Bool.and_eq_true, Nat.ble_eq, Nat.ble_eq]
    exact ⟨⟨h, hc⟩, hs⟩
  refine lwA ?_
  refine xR_cQ rfl rfl (xc rfl) (c116_2 hT h8.2.2.2.1 e04) (by omega) (fun r2 I2 L2 G2 hq => ?_)
  rcases hq with ⟨X, U, C, s9, P3, P4, P5, hf, rfl, rfl, rfl, rfl⟩ | ⟨X, U, C, s9, P3, P4, P5, f, g, i0, M, hsu, hfa, hga, hgB, rfl, rfl, rfl, rfl⟩
  · refine lwB ?_
    refine xR_cQ rfl rfl rfl (c_185_r ⟨by show TPO (I 102) (I 101 1); rw [eb, en]; exact hT, by show 0 ≤ I 101 2 ∧ I 101 2 ≤ 6; omega⟩) (by omega) (fun r2 I2 L2 G2 hq => ?_)
    obtain ⟨T9, g9, l9, c9, n9, R9, M9, r9, hu, rfl, rfl, rfl, rfl⟩ := hq
    have hu2 := hu.2 (by show ¬ I 101 2 = 6; omega)
    obtain ⟨⟨u1, u2, u3, u4, u5, u6⟩, hcase⟩ := hu2
    obtain ⟨fB, f6, f0, frg, fQ⟩ := hf
    have fQ' : Q (I 102) (I 101 1) s00 (sX (X 10)) := by rw [eb, en]; exact fQ
    rcases hcase with ⟨W, w0, wrg, wQ, rfl, w2⟩ | ⟨yQ, -⟩
    · have hW : X 10 = W := Q_XX (fQ'.sy.tr wQ)
      rw [Nat.sub_zero, Nat.sub_zero]
      refine lwC ⟨⟨⟨by omega, by omega⟩, ⟨by omega, by omega⟩⟩, fun _ => ?_, fun r => absurd (by rw [hW]) r⟩
      refine hg _ _ (2, D2) ?_ rfl
      have u2' : ∀ j, j < 400 * ((2 : Nat) : Int) ∨ 400 * ((2 : Nat) : Int) + 400 ≤ j → g9 j = I 103 j := fun j hj => u2 j (by show j < 400 * I 101 2 ∨ 400 * I 101 2 + 400 ≤ j; rw [e12]; exact hj)
      have u3' : ∀ j, j < 48 * ((2 : Nat) : Int) ∨ 48 * ((2 : Nat) : Int) + 48 ≤ j → c9 j = I 105 j := fun j hj => u3 j (by show j < 48 * I 101 2 ∨ 48 * I 101 2 + 48 ≤ j; rw [e12]; exact hj)
      have u4' : ∀ j, ¬ j = ((2 : Nat) : Int) → n9 j = I 106 j := fun j hj => u4 j (by show ¬ j = I 101 2; rw [e12]; exact hj)
      have hcB : RB c9 := u5 h8.2.2.2.2
      have w2' : T9 2 = I 101 2 := w2
      have t21 : T9 21 = I 101 21 := u1 21 (by omega)
      have t22 : T9 22 = I 101 22 := u1 22 (by omega)
      have t23 : T9 23 = I 101 23 := u1 23 (by omega)
      have t25 : T9 25 = I 101 25 := u1 25 (by omega)
      refine ⟨⟨by show (0 : Int) = T9 1; omega, ⟨by show (0 : Int) ≤ 0; decide, by show (0 : Int) ≤ 400; decide⟩, h1.2.2.1, fun j j0 j1 => absurd (show j < 0 from j1) (by omega)⟩, h2, ?_, ?_, ?_, ?_, ⟨?_, ?_, ?_, ?_⟩, ⟨h8.1, h8.2.1, h8.2.2.1, fB, hcB⟩⟩
      · have h9 := R3_fr h3 u2' u3' u4' hcB
        rw [← w2', ← t21] at h9
        exact h9
      · rw [← t22] at h4; exact h4
      · rw [← t23] at h5; exact h5
      · rw [← t25] at h6; exact h6
      · rw [← w2'] at h70; exact h70
      · rw [← w2'] at h71; exact h71
      · rw [← w2'] at h72; exact h72
      · rw [← w2'] at h73; exact h73
    · exact absurd (Q_XY (fQ'.sy.tr yQ)) f0
  · refine lwB ?_
    refine xR_cQ rfl rfl rfl (c_185_r ⟨by show TPO (I 102) (I 101 1); rw [eb, en]; exact hT, by show 0 ≤ I 101 2 ∧ I 101 2 ≤ 6; omega⟩) (by omega) (fun r2 I2 L2 G2 hq => ?_)
    obtain ⟨T9, g9, l9, c9, n9, R9, M9, r9, hu, rfl, rfl, rfl, rfl⟩ := hq
    have hu2 := hu.2 (by show ¬ I 101 2 = 6; omega)
    obtain ⟨⟨u1, u2, u3, u4, u5, u6⟩, hcase⟩ := hu2
    obtain ⟨f6, fi, fM, fz, fK, fQ, fB⟩ := hsu
    have fQ' : Q (I 102) (I 101 1) s00 (sY M) := by rw [eb, en]; exact fQ
    rcases hcase with ⟨W, w0, wrg, wQ, -⟩ | ⟨yQ, ⟨z, yC, yz⟩, yn, yn2, rfl, w2⟩
    · exact absurd (Q_XY (wQ.sy.tr fQ')) w0
    · have hM : M = M9 := Q_YY (fQ'.sy.tr yQ)
      subst hM
      have w2' : T9 2 = I 101 2 + 1 := w2
      rw [Nat.sub_zero, Nat.sub_zero]
      refine lwC ⟨⟨⟨by decide, by decide⟩, ⟨by show -2147483648 ≤ I 101 2; omega, by show I 101 2 ≤ 2147483647; omega⟩⟩, fun _ => ?_, fun r => absurd (show (2 : Int) = I 101 2 by omega) r⟩
      refine hg _ _ _ ?_ rfl
      have yC' : CLD g9 c9 ((2 : Nat) : Int) M 0 0 z := by have h9 : CLD g9 c9 (I 101 2) M 0 0 z := yC; rw [e12] at h9; exact h9
      have yn' : (M.length : Int) = n9 ((2 : Nat) : Int) := by have h9 : (M.length : Int) = n9 (I 101 2) := yn; rw [e12] at h9; exact h9
      have u2' : ∀ j, j < 400 * ((2 : Nat) : Int) ∨ 400 * ((2 : Nat) : Int) + 400 ≤ j → g9 j = I 103 j := fun j hj => u2 j (by show j < 400 * I 101 2 ∨ 400 * I 101 2 + 400 ≤ j; rw [e12]; exact hj)
      have u3' : ∀ j, j < 48 * ((2 : Nat) : Int) ∨ 48 * ((2 : Nat) : Int) + 48 ≤ j → c9 j = I 105 j := fun j hj => u3 j (by show j < 48 * I 101 2 ∨ 48 * I 101 2 + 48 ≤ j; rw [e12]; exact hj)
      have u4' : ∀ j, ¬ j = ((2 : Nat) : Int) → n9 j = I 106 j := fun j hj => u4 j (by show ¬ j = I 101 2; rw [e12]; exact hj)
      have hcB : RB c9 := u5 h8.2.2.2.2
      have hKf : KCD f g M 0 0 (U 3) := KCD.rb fK hfa hga (by omega) (fun r => by rw [r] at fM; have : ((0 : Nat) : Int) = i0 + 1 := fM; omega)
      have t21 : T9 21 = I 101 21 := u1 21 (by omega)
      have t22 : T9 22 = I 101 22 := u1 22 (by omega)
      have t23 : T9 23 = I 101 23 := u1 23 (by omega)
      have t25 : T9 25 = I 101 25 := u1 25 (by omega)
      refine ⟨⟨by show (0 : Int) = T9 1; omega, ⟨by show (0 : Int) ≤ 0; decide, by show (0 : Int) ≤ 400; decide⟩, h1.2.2.1, fun j j0 j1 => absurd (show j < 0 from j1) (by omega)⟩, h2, ?_, ?_, ?_, ?_, ⟨?_, ?_, ?_, ?_⟩, ⟨h8.1, h8.2.1, h8.2.2.1, fB, hcB⟩⟩
      · have hA9 : ∀ x9 : Int, 0 ≤ x9 → x9 < ((2 : Nat) : Int) → csel x9 (I 127) (I 130) f (I 136) (I 139) (I 142) = csel x9 (I 127) (I 130) (I 133) (I 136) (I 139) (I 142) := fun x9 f0 f1 => by
          have h9 : x9 = 0 ∨ x9 = 1 := by omega
          rcases h9 with rfl | rfl <;> rfl
        have hB9 : ∀ x9 : Int, 0 ≤ x9 → x9 < ((2 : Nat) : Int) → csel x9 (I 128) (I 131) g (I 137) (I 140) (I 143) = csel x9 (I 128) (I 131) (I 134) (I 137) (I 140) (I 143) := fun x9 f0 f1 => by
          have h9 : x9 = 0 ∨ x9 = 1 := by omega
          rcases h9 with rfl | rfl <;> rfl
        have h9 := R3_new (r := 2) (by decide) h3 hA9 hB9 (show csel ((2 : Nat) : Int) (I 127) (I 130) f (I 136) (I 139) (I 142) = f from rfl) (show csel ((2 : Nat) : Int) (I 128) (I 131) g (I 137) (I 140) (I 143) = g from rfl) u2' u3' u4' hcB yC' yz.2 yn' fM fi hKf fz hgB (s00_wf yQ)
        have h10 : ∀ x y : Int, x = ((2 : Nat) : Int) + 1 → y = I 101 21 → R3 (((2 : Nat) : Int) + 1) x (I 6 2) y (gD1 2 D2 (U 3).toNat (2 * i0 + 3).toNat) (I 127) (I 128) (I 130) (I 131) f g (I 136) (I 137) (I 139) (I 140) (I 142) (I 143) g9 c9 n9 := by
          intro x y hx hy
          rw [hx, hy]
          exact h9
        exact h10 _ _ (show T9 2 = ((2 : Nat) : Int) + 1 by omega) t21
      · rw [← t22] at h4; exact h4
      · rw [← t23] at h5; exact h5
      · rw [← t25] at h6; exact h6
      · exact h70.mono (by show I 101 2 ≤ T9 2; omega)
      · exact h71.mono (by show I 101 2 ≤ T9 2; omega)
      · exact h72.mono (by show I 101 2 ≤ T9 2; omega)
      · exact h73.mono (by show I 101 2 ≤ T9 2; omega)
theorem lr_3 {I : XI} {L : XL} {D2 : (Nat → Nat) × (Nat → Nat) × ((Int → Int) × Nat)} {d c s : Nat} {post : XQ} {i : Int} (hd : 100 ≤ d) (hrel : REL I (3, D2)) (hc : 3 ≤ c) (hs : 802 ≤ s) (hg : ∀ I2 L2 D3, REL I2 D3 → D3.2.2.2 = D2.2.2 → xR d 264 es_264 10 [xt 2, xr (some 0), xr (some 101), xi (i + 6)] [] I2 L2 (gG D3) (c - 3) (s - 802) post) : xR d 264 es_264 103 [xt 2, xr (some 0), xr (some 101), xi i] [] I L (gG (3, D2)) c s post := by
  obtain ⟨h1, h2, h3, h4, h5, h6, ⟨h70, h71, h72, h73⟩, h8⟩ := hrel
  have hT : TPO (I 2) (I 1 6) := ⟨h1.2.1, h1.2.2.2⟩
  have e04 : I 0 4 = 3 := h3.1
  have e12 : I 101 2 = 3 := h3.2.1
  have eb : I 102 = I 2 := h1.2.2.1.symm
  have en : I 101 1 = I 1 6 := h1.1.symm
  have xc : ∀ {st : List XV} {n rt m' kd : Nat} {G : XG}, (Nat.ble n st.length && Nat.ble (xents (st.take n).reverse).length (mL m') && (Nat.beq rt 0 || (match st[n - 1]? with
    | some (.inr (.inr (.inl (some i)))) => Nat.beq (G.2.1 i).1 rt
    | _ => false)) && Nat.ble kd 3 && Nat.ble (xwds (st.drop n)) 8) = true → xcc st n rt m' kd G c 3 s 802 = true := by
    intro st n rt m' kd G h
    unfold xcc
    rw [Bool.and_eq_true, Bool.and_eq_true, Nat.ble_eq, Nat.ble_eq]
    exact ⟨⟨h, hc⟩, hs⟩
  refine lwA ?_
  refine xR_cQ rfl rfl (xc rfl) (c116_3 hT h8.2.2.2.1 e04) (by omega) (fun r2 I2 L2 G2 hq => ?_)
  rcases hq with ⟨X, U, C, s9, P3, P4, P5, hf, rfl, rfl, rfl, rfl⟩ | ⟨X, U, C, s9, P3, P4, P5, f, g, i0, M, hsu, hfa, hga, hgB, rfl, rfl, rfl, rfl⟩
  · refine lwB ?_
    refine xR_cQ rfl rfl rfl (c_185_r ⟨by show TPO (I 102) (I 101 1); rw [eb, en]; exact hT, by show 0 ≤ I 101 2 ∧ I 101 2 ≤ 6; omega⟩) (by omega) (fun r2 I2 L2 G2 hq => ?_)
    obtain ⟨T9, g9, l9, c9, n9, R9, M9, r9, hu, rfl, rfl, rfl, rfl⟩ := hq
    have hu2 := hu.2 (by show ¬ I 101 2 = 6; omega)
    obtain ⟨⟨u1, u2, u3, u4, u5, u6⟩, hcase⟩ := hu2
    obtain ⟨fB, f6, f0, frg, fQ⟩ := hf
    have fQ' : Q (I 102) (I 101 1) s00 (sX (X 10)) := by rw [eb, en]; exact fQ
    rcases hcase with ⟨W, w0, wrg, wQ, rfl, w2⟩ | ⟨yQ, -⟩
    · have hW : X 10 = W := Q_XX (fQ'.sy.tr wQ)
      rw [Nat.sub_zero, Nat.sub_zero]
      refine lwC ⟨⟨⟨by omega, by omega⟩, ⟨by omega, by omega⟩⟩, fun _ => ?_, fun r => absurd (by rw [hW]) r⟩
      refine hg _ _ (3, D2) ?_ rfl
      have u2' : ∀ j, j < 400 * ((3 : Nat) : Int) ∨ 400 * ((3 : Nat) : Int) + 400 ≤ j → g9 j = I 103 j := fun j hj => u2 j (by show j < 400 * I 101 2 ∨ 400 * I 101 2 + 400 ≤ j; rw [e12]; exact hj)
      have u3' : ∀ j, j < 48 * ((3 : Nat) : Int) ∨ 48 * ((3 : Nat) : Int) + 48 ≤ j → c9 j = I 105 j := fun j hj => u3 j (by show j < 48 * I 101 2 ∨ 48 * I 101 2 + 48 ≤ j; rw [e12]; exact hj)
      have u4' : ∀ j, ¬ j = ((3 : Nat) : Int) → n9 j = I 106 j := fun j hj => u4 j (by show ¬ j = I 101 2; rw [e12]; exact hj)
      have hcB : RB c9 := u5 h8.2.2.2.2
      have w2' : T9 2 = I 101 2 := w2
      have t21 : T9 21 = I 101 21 := u1 21 (by omega)
      have t22 : T9 22 = I 101 22 := u1 22 (by omega)
      have t23 : T9 23 = I 101 23 := u1 23 (by omega)
      have t25 : T9 25 = I 101 25 := u1 25 (by omega)
      refine ⟨⟨by show (0 : Int) = T9 1; omega, ⟨by show (0 : Int) ≤ 0; decide, by show (0 : Int) ≤ 400; decide⟩, h1.2.2.1, fun j j0 j1 => absurd (show j < 0 from j1) (by omega)⟩, h2, ?_, ?_, ?_, ?_, ⟨?_, ?_, ?_, ?_⟩, ⟨h8.1, h8.2.1, h8.2.2.1, fB, hcB⟩⟩
      · have h9 := R3_fr h3 u2' u3' u4' hcB
        rw [← w2', ← t21] at h9
        exact h9
      · rw [← t22] at h4; exact h4
      · rw [← t23] at h5; exact h5
      · rw [← t25] at h6; exact h6
      · rw [← w2'] at h70; exact h70
      · rw [← w2'] at h71; exact h71
      · rw [← w2'] at h72; exact h72
      · rw [← w2'] at h73; exact h73
    · exact absurd (Q_XY (fQ'.sy.tr yQ)) f0
  · refine lwB ?_
    refine xR_cQ rfl rfl rfl (c_185_r ⟨by show TPO (I 102) (I 101 1); rw [eb, en]; exact hT, by show 0 ≤ I 101 2 ∧ I 101 2 ≤ 6; omega⟩) (by omega) (fun r2 I2 L2 G2 hq => ?_)
    obtain ⟨T9, g9, l9, c9, n9, R9, M9, r9, hu, rfl, rfl, rfl, rfl⟩ := hq
    have hu2 := hu.2 (by show ¬ I 101 2 = 6; omega)
    obtain ⟨⟨u1, u2, u3, u4, u5, u6⟩, hcase⟩ := hu2
    obtain ⟨f6, fi, fM, fz, fK, fQ, fB⟩ := hsu
    have fQ' : Q (I 102) (I 101 1) s00 (sY M) := by rw [eb, en]; exact fQ
    rcases hcase with ⟨W, w0, wrg, wQ, -⟩ | ⟨yQ, ⟨z, yC, yz⟩, yn, yn2, rfl, w2⟩
    · exact absurd (Q_XY (wQ.sy.tr fQ')) w0
    · have hM : M = M9 := Q_YY (fQ'.sy.tr yQ)
      subst hM
      have w2' : T9 2 = I 101 2 + 1 := w2
      rw [Nat.sub_zero, Nat.sub_zero]
      refine lwC ⟨⟨⟨by decide, by decide⟩, ⟨by show -2147483648 ≤ I 101 2; omega, by show I 101 2 ≤ 2147483647; omega⟩⟩, fun _ => ?_, fun r => absurd (show (3 : Int) = I 101 2 by omega) r⟩
      refine hg _ _ _ ?_ rfl
      have yC' : CLD g9 c9 ((3 : Nat) : Int) M 0 0 z := by have h9 : CLD g9 c9 (I 101 2) M 0 0 z := yC; rw [e12] at h9; exact h9
      have yn' : (M.length : Int) = n9 ((3 : Nat) : Int) := by have h9 : (M.length : Int) = n9 (I 101 2) := yn; rw [e12] at h9; exact h9
      have u2' : ∀ j, j < 400 * ((3 : Nat) : Int) ∨ 400 * ((3 : Nat) : Int) + 400 ≤ j → g9 j = I 103 j := fun j hj => u2 j (by show j < 400 * I 101 2 ∨ 400 * I 101 2 + 400 ≤ j; rw [e12]; exact hj)
      have u3' : ∀ j, j < 48 * ((3 : Nat) : Int) ∨ 48 * ((3 : Nat) : Int) + 48 ≤ j → c9 j = I 105 j := fun j hj => u3 j (by show j < 48 * I 101 2 ∨ 48 * I 101 2 + 48 ≤ j; rw [e12]; exact hj)
      have u4' : ∀ j, ¬ j = ((3 : Nat) : Int) → n9 j = I 106 j := fun j hj => u4 j (by show ¬ j = I 101 2; rw [e12]; exact hj)
      have hcB : RB c9 := u5 h8.2.2.2.2
      have hKf : KCD f g M 0 0 (U 3) := KCD.rb fK hfa hga (by omega) (fun r => by rw [r] at fM; have : ((0 : Nat) : Int) = i0 + 1 := fM; omega)
      have t21 : T9 21 = I 101 21 := u1 21 (by omega)
      have t22 : T9 22 = I 101 22 := u1 22 (by omega)
      have t23 : T9 23 = I 101 23 := u1 23 (by omega)
      have t25 : T9 25 = I 101 25 := u1 25 (by omega)
      refine ⟨⟨by show (0 : Int) = T9 1; omega, ⟨by show (0 : Int) ≤ 0; decide, by show (0 : Int) ≤ 400; decide⟩, h1.2.2.1, fun j j0 j1 => absurd (show j < 0 from j1) (by omega)⟩, h2, ?_, ?_, ?_, ?_, ⟨?_, ?_, ?_, ?_⟩, ⟨h8.1, h8.2.1, h8.2.2.1, fB, hcB⟩⟩
      · have hA9 : ∀ x9 : Int, 0 ≤ x9 → x9 < ((3 : Nat) : Int) → csel x9 (I 127) (I 130) (I 133) f (I 139) (I 142) = csel x9 (I 127) (I 130) (I 133) (I 136) (I 139) (I 142) := fun x9 f0 f1 => by
          have h9 : x9 = 0 ∨ x9 = 1 ∨ x9 = 2 := by omega
          rcases h9 with rfl | rfl | rfl <;> rfl
        have hB9 : ∀ x9 : Int, 0 ≤ x9 → x9 < ((3 : Nat) : Int) → csel x9 (I 128) (I 131) (I 134) g (I 140) (I 143) = csel x9 (I 128) (I 131) (I 134) (I 137) (I 140) (I 143) := fun x9 f0 f1 => by
          have h9 : x9 = 0 ∨ x9 = 1 ∨ x9 = 2 := by omega
          rcases h9 with rfl | rfl | rfl <;> rfl
        have h9 := R3_new (r := 3) (by decide) h3 hA9 hB9 (show csel ((3 : Nat) : Int) (I 127) (I 130) (I 133) f (I 139) (I 142) = f from rfl) (show csel ((3 : Nat) : Int) (I 128) (I 131) (I 134) g (I 140) (I 143) = g from rfl) u2' u3' u4' hcB yC' yz.2 yn' fM fi hKf fz hgB (s00_wf yQ)
        have h10 : ∀ x y : Int, x = ((3 : Nat) : Int) + 1 → y = I 101 21 → R3 (((3 : Nat) : Int) + 1) x (I 6 2) y (gD1 3 D2 (U 3).toNat (2 * i0 + 3).toNat) (I 127) (I 128) (I 130) (I 131) (I 133) (I 134) f g (I 139) (I 140) (I 142) (I 143) g9 c9 n9 := by
          intro x y hx hy
          rw [hx, hy]
          exact h9
        exact h10 _ _ (show T9 2 = ((3 : Nat) : Int) + 1 by omega) t21
      · rw [← t22] at h4; exact h4
      · rw [← t23] at h5; exact h5
      · rw [← t25] at h6; exact h6
      · exact h70.mono (by show I 101 2 ≤ T9 2; omega)
      · exact h71.mono (by show I 101 2 ≤ T9 2; omega)
      · exact h72.mono (by show I 101 2 ≤ T9 2; omega)
      · exact h73.mono (by show I 101 2 ≤ T9 2; omega)
theorem lr_4 {I : XI} {L : XL} {D2 : (Nat → Nat) × (Nat → Nat) × ((Int → Int) × Nat)} {d c s : Nat} {post : XQ} {i : Int} (hd : 100 ≤ d) (hrel : REL I (4, D2)) (hc : 3 ≤ c) (hs : 802 ≤ s) (hg : ∀ I2 L2 D3, REL I2 D3 → D3.2.2.2 = D2.2.2 → xR d 264 es_264 10 [xt 2, xr (some 0), xr (some 101), xi (i + 6)] [] I2 L2 (gG D3) (c - 3) (s - 802) post) : xR d 264 es_264 103 [xt 2, xr (some 0), xr (some 101), xi i] [] I L (gG (4, D2)) c s post := by
  obtain ⟨h1, h2, h3, h4, h5, h6, ⟨h70, h71, h72, h73⟩, h8⟩ := hrel
  have hT : TPO (I 2) (I 1 6) := ⟨h1.2.1, h1.2.2.2⟩
  have e04 : I 0 4 = 4 := h3.1
  have e12 : I 101 2 = 4 := h3.2.1
  have eb : I 102 = I 2 := h1.2.2.1.symm
  have en : I 101 1 = I 1 6 := h1.1.symm
  have xc : ∀ {st : List XV} {n rt m' kd : Nat} {G : XG}, (Nat.ble n st.length && Nat.ble (xents (st.take n).reverse).length (mL m') && (Nat.beq rt 0 || (match st[n - 1]? with
    | some (.inr (.inr (.inl (some i)))) => Nat.beq (G.2.1 i).1 rt
    | _ => false)) && Nat.ble kd 3 && Nat.ble (xwds (st.drop n)) 8) = true → xcc st n rt m' kd G c 3 s 802 = true := by
    intro st n rt m' kd G h
    unfold xcc
    rw [Bool.and_eq_true, Bool.and_eq_true, Nat.ble_eq, Nat.ble_eq]
    exact ⟨⟨h, hc⟩, hs⟩
  refine lwA ?_
  refine xR_cQ rfl rfl (xc rfl) (c116_4 hT h8.2.2.2.1 e04) (by omega) (fun r2 I2 L2 G2 hq => ?_)
  rcases hq with ⟨X, U, C, s9, P3, P4, P5, hf, rfl, rfl, rfl, rfl⟩ | ⟨X, U, C, s9, P3, P4, P5, f, g, i0, M, hsu, hfa, hga, hgB, rfl, rfl, rfl, rfl⟩
  · refine lwB ?_
    refine xR_cQ rfl rfl rfl (c_185_r ⟨by show TPO (I 102) (I 101 1); rw [eb, en]; exact hT, by show 0 ≤ I 101 2 ∧ I 101 2 ≤ 6; omega⟩) (by omega) (fun r2 I2 L2 G2 hq => ?_)
    obtain ⟨T9, g9, l9, c9, n9, R9, M9, r9, hu, rfl, rfl, rfl, rfl⟩ := hq
    have hu2 := hu.2 (by show ¬ I 101 2 = 6; omega)
    obtain ⟨⟨u1, u2, u3, u4, u5, u6⟩, hcase⟩ := hu2
    obtain ⟨fB, f6, f0, frg, fQ⟩ := hf
    have fQ' : Q (I 102) (I 101 1) s00 (sX (X 10)) := by rw [eb, en]; exact fQ
    rcases hcase with ⟨W, w0, wrg, wQ, rfl, w2⟩ | ⟨yQ, -⟩
    · have hW : X 10 = W := Q_XX (fQ'.sy.tr wQ)
      rw [Nat.sub_zero, Nat.sub_zero]
      refine lwC ⟨⟨⟨by omega, by omega⟩, ⟨by omega, by omega⟩⟩, fun _ => ?_, fun r => absurd (by rw [hW]) r⟩
      refine hg _ _ (4, D2) ?_ rfl
      have u2' : ∀ j, j < 400 * ((4 : Nat) : Int) ∨ 400 * ((4 : Nat) : Int) + 400 ≤ j → g9 j = I 103 j := fun j hj => u2 j (by show j < 400 * I 101 2 ∨ 400 * I 101 2 + 400 ≤ j; rw [e12]; exact hj)
      have u3' : ∀ j, j < 48 * ((4 : Nat) : Int) ∨ 48 * ((4 : Nat) : Int) + 48 ≤ j → c9 j = I 105 j := fun j hj => u3 j (by show j < 48 * I 101 2 ∨ 48 * I 101 2 + 48 ≤ j; rw [e12]; exact hj)
      have u4' : ∀ j, ¬ j = ((4 : Nat) : Int) → n9 j = I 106 j := fun j hj => u4 j (by show ¬ j = I 101 2; rw [e12]; exact hj)
      have hcB : RB c9 := u5 h8.2.2.2.2
      have w2' : T9 2 = I 101 2 := w2
      have t21 : T9 21 = I 101 21 := u1 21 (by omega)
      have t22 : T9 22 = I 101 22 := u1 22 (by omega)
      have t23 : T9 23 = I 101 23 := u1 23 (by omega)
      have t25 : T9 25 = I 101 25 := u1 25 (by omega)
      refine ⟨⟨by show (0 : Int) = T9 1; omega, ⟨by show (0 : Int) ≤ 0; decide, by show (0 : Int) ≤ 400; decide⟩, h1.2.2.1, fun j j0 j1 => absurd (show j < 0 from j1) (by omega)⟩, h2, ?_, ?_, ?_, ?_, ⟨?_, ?_, ?_, ?_⟩, ⟨h8.1, h8.2.1, h8.2.2.1, fB, hcB⟩⟩
      · have h9 := R3_fr h3 u2' u3' u4' hcB
        rw [← w2', ← t21] at h9
        exact h9
      · rw [← t22] at h4; exact h4
      · rw [← t23] at h5; exact h5
      · rw [← t25] at h6; exact h6
      · rw [← w2'] at h70; exact h70
      · rw [← w2'] at h71; exact h71
      · rw [← w2'] at h72; exact h72
      · rw [← w2'] at h73; exact h73
    · exact absurd (Q_XY (fQ'.sy.tr yQ)) f0
  · refine lwB ?_
    refine xR_cQ rfl rfl rfl (c_185_r ⟨by show TPO (I 102) (I 101 1); rw [eb, en]; exact hT, by show 0 ≤ I 101 2 ∧ I 101 2 ≤ 6; omega⟩) (by omega) (fun r2 I2 L2 G2 hq => ?_)
    obtain ⟨T9, g9, l9, c9, n9, R9, M9, r9, hu, rfl, rfl, rfl, rfl⟩ := hq
    have hu2 := hu.2 (by show ¬ I 101 2 = 6; omega)
    obtain ⟨⟨u1, u2, u3, u4, u5, u6⟩, hcase⟩ := hu2
    obtain ⟨f6, fi, fM, fz, fK, fQ, fB⟩ := hsu
    have fQ' : Q (I 102) (I 101 1) s00 (sY M) := by rw [eb, en]; exact fQ
    rcases hcase with ⟨W, w0, wrg, wQ, -⟩ | ⟨yQ, ⟨z, yC, yz⟩, yn, yn2, rfl, w2⟩
    · exact absurd (Q_XY (wQ.sy.tr fQ')) w0
    · have hM : M = M9 := Q_YY (fQ'.sy.tr yQ)
      subst hM
      have w2' : T9 2 = I 101 2 + 1 := w2
      rw [Nat.sub_zero, Nat.sub_zero]
      refine lwC ⟨⟨⟨by decide, by decide⟩, ⟨by show -2147483648 ≤ I 101 2; omega, by show I 101 2 ≤ 2147483647; omega⟩⟩, fun _ => ?_, fun r => absurd (show (4 : Int) = I 101 2 by omega) r⟩
      refine hg _ _ _ ?_ rfl
      have yC' : CLD g9 c9 ((4 : Nat) : Int) M 0 0 z := by have h9 : CLD g9 c9 (I 101 2) M 0 0 z := yC; rw [e12] at h9; exact h9
      have yn' : (M.length : Int) = n9 ((4 : Nat) : Int) := by have h9 : (M.length : Int) = n9 (I 101 2) := yn; rw [e12] at h9; exact h9
      have u2' : ∀ j, j < 400 * ((4 : Nat) : Int) ∨ 400 * ((4 : Nat) : Int) + 400 ≤ j → g9 j = I 103 j := fun j hj => u2 j (by show j < 400 * I 101 2 ∨ 400 * I 101 2 + 400 ≤ j; rw [e12]; exact hj)
      have u3' : ∀ j, j < 48 * ((4 : Nat) : Int) ∨ 48 * ((4 : Nat) : Int) + 48 ≤ j → c9 j = I 105 j := fun j hj => u3 j (by show j < 48 * I 101 2 ∨ 48 * I 101 2 + 48 ≤ j; rw [e12]; exact hj)
      have u4' : ∀ j, ¬ j = ((4 : Nat) : Int) → n9 j = I 106 j := fun j hj => u4 j (by show ¬ j = I 101 2; rw [e12]; exact hj)
      have hcB : RB c9 := u5 h8.2.2.2.2
      have hKf : KCD f g M 0 0 (U 3) := KCD.rb fK hfa hga (by omega) (fun r => by rw [r] at fM; have : ((0 : Nat) : Int) = i0 + 1 := fM; omega)
      have t21 : T9 21 = I 101 21 := u1 21 (by omega)
      have t22 : T9 22 = I 101 22 := u1 22 (by omega)
      have t23 : T9 23 = I 101 23 := u1 23 (by omega)
      have t25 : T9 25 = I 101 25 := u1 25 (by omega)
      refine ⟨⟨by show (0 : Int) = T9 1; omega, ⟨by show (0 : Int) ≤ 0; decide, by show (0 : Int) ≤ 400; decide⟩, h1.2.2.1, fun j j0 j1 => absurd (show j < 0 from j1) (by omega)⟩, h2, ?_, ?_, ?_, ?_, ⟨?_, ?_, ?_, ?_⟩, ⟨h8.1, h8.2.1, h8.2.2.1, fB, hcB⟩⟩
      · have hA9 : ∀ x9 : Int, 0 ≤ x9 → x9 < ((4 : Nat) : Int) → csel x9 (I 127) (I 130) (I 133) (I 136) f (I 142) = csel x9 (I 127) (I 130) (I 133) (I 136) (I 139) (I 142) := fun x9 f0 f1 => by
          have h9 : x9 = 0 ∨ x9 = 1 ∨ x9 = 2 ∨ x9 = 3 := by omega
          rcases h9 with rfl | rfl | rfl | rfl <;> rfl
        have hB9 : ∀ x9 : Int, 0 ≤ x9 → x9 < ((4 : Nat) : Int) → csel x9 (I 128) (I 131) (I 134) (I 137) g (I 143) = csel x9 (I 128) (I 131) (I 134) (I 137) (I 140) (I 143) := fun x9 f0 f1 => by
          have h9 : x9 = 0 ∨ x9 = 1 ∨ x9 = 2 ∨ x9 = 3 := by omega
          rcases h9 with rfl | rfl | rfl | rfl <;> rfl
        have h9 := R3_new (r := 4) (by decide) h3 hA9 hB9 (show csel ((4 : Nat) : Int) (I 127) (I 130) (I 133) (I 136) f (I 142) = f from rfl) (show csel ((4 : Nat) : Int) (I 128) (I 131) (I 134) (I 137) g (I 143) = g from rfl) u2' u3' u4' hcB yC' yz.2 yn' fM fi hKf fz hgB (s00_wf yQ)
        have h10 : ∀ x y : Int, x = ((4 : Nat) : Int) + 1 → y = I 101 21 → R3 (((4 : Nat) : Int) + 1) x (I 6 2) y (gD1 4 D2 (U 3).toNat (2 * i0 + 3).toNat) (I 127) (I 128) (I 130) (I 131) (I 133) (I 134) (I 136) (I 137) f g (I 142) (I 143) g9 c9 n9 := by
          intro x y hx hy
          rw [hx, hy]
          exact h9
        exact h10 _ _ (show T9 2 = ((4 : Nat) : Int) + 1 by omega) t21
      · rw [← t22] at h4; exact h4
      · rw [← t23] at h5; exact h5
      · rw [← t25] at h6; exact h6
      · exact h70.mono (by show I 101 2 ≤ T9 2; omega)
      · exact h71.mono (by show I 101 2 ≤ T9 2; omega)
      · exact h72.mono (by show I 101 2 ≤ T9 2; omega)
      · exact h73.mono (by show I 101 2 ≤ T9 2; omega)
theorem lr_5 {I : XI} {L : XL} {D2 : (Nat → Nat) × (Nat → Nat) × ((Int → Int) × Nat)} {d c s : Nat} {post : XQ} {i : Int} (hd : 100 ≤ d) (hrel : REL I (5, D2)) (hc : 3 ≤ c) (hs : 802 ≤ s) (hg : ∀ I2 L2 D3, REL I2 D3 → D3.2.2.2 = D2.2.2 → xR d 264 es_264 10 [xt 2, xr (some 0), xr (some 101), xi (i + 6)] [] I2 L2 (gG D3) (c - 3) (s - 802) post) : xR d 264 es_264 103 [xt 2, xr (some 0), xr (some 101), xi i] [] I L (gG (5, D2)) c s post := by
  obtain ⟨h1, h2, h3, h4, h5, h6, ⟨h70, h71, h72, h73⟩, h8⟩ := hrel
  have hT : TPO (I 2) (I 1 6) := ⟨h1.2.1, h1.2.2.2⟩
  have e04 : I 0 4 = 5 := h3.1
  have e12 : I 101 2 = 5 := h3.2.1
  have eb : I 102 = I 2 := h1.2.2.1.symm
  have en : I 101 1 = I 1 6 := h1.1.symm
  have xc : ∀ {st : List XV} {n rt m' kd : Nat} {G : XG}, (Nat.ble n st.length && Nat.ble (xents (st.take n).reverse).length (mL m') && (Nat.beq rt 0 || (match st[n - 1]? with
    | some (.inr (.inr (.inl (some i)))) => Nat.beq (G.2.1 i).1 rt
    | _ => false)) && Nat.ble kd 3 && Nat.ble (xwds (st.drop n)) 8) = true → xcc st n rt m' kd G c 3 s 802 = true := by
    intro st n rt m' kd G h
    unfold xcc
    rw [Bool.and_eq_true, Bool.and_eq_true, Nat.ble_eq, Nat.ble_eq]
    exact ⟨⟨h, hc⟩, hs⟩
  refine lwA ?_
  refine xR_cQ rfl rfl (xc rfl) (c116_5 hT h8.2.2.2.1 e04) (by omega) (fun r2 I2 L2 G2 hq => ?_)
  rcases hq with ⟨X, U, C, s9, P3, P4, P5, hf, rfl, rfl, rfl, rfl⟩ | ⟨X, U, C, s9, P3, P4, P5, f, g, i0, M, hsu, hfa, hga, hgB, rfl, rfl, rfl, rfl⟩
  · refine lwB ?_
    refine xR_cQ rfl rfl rfl (c_185_r ⟨by show TPO (I 102) (I 101 1); rw [eb, en]; exact hT, by show 0 ≤ I 101 2 ∧ I 101 2 ≤ 6; omega⟩) (by omega) (fun r2 I2 L2 G2 hq => ?_)
    obtain ⟨T9, g9, l9, c9, n9, R9, M9, r9, hu, rfl, rfl, rfl, rfl⟩ := hq
    have hu2 := hu.2 (by show ¬ I 101 2 = 6; omega)
    obtain ⟨⟨u1, u2, u3, u4, u5, u6⟩, hcase⟩ := hu2
    obtain ⟨fB, f6, f0, frg, fQ⟩ := hf
    have fQ' : Q (I 102) (I 101 1) s00 (sX (X 10)) := by rw [eb, en]; exact fQ
    rcases hcase with ⟨W, w0, wrg, wQ, rfl, w2⟩ | ⟨yQ, -⟩
    · have hW : X 10 = W := Q_XX (fQ'.sy.tr wQ)
      rw [Nat.sub_zero, Nat.sub_zero]
      refine lwC ⟨⟨⟨by omega, by omega⟩, ⟨by omega, by omega⟩⟩, fun _ => ?_, fun r => absurd (by rw [hW]) r⟩
      refine hg _ _ (5, D2) ?_ rfl
      have u2' : ∀ j, j < 400 * ((5 : Nat) : Int) ∨ 400 * ((5 : Nat) : Int) + 400 ≤ j → g9 j = I 103 j := fun j hj => u2 j (by show j < 400 * I 101 2 ∨ 400 * I 101 2 + 400 ≤ j; rw [e12]; exact hj)
      have u3' : ∀ j, j < 48 * ((5 : Nat) : Int) ∨ 48 * ((5 : Nat) : Int) + 48 ≤ j → c9 j = I 105 j := fun j hj => u3 j (by show j < 48 * I 101 2 ∨ 48 * I 101 2 + 48 ≤ j; rw [e12]; exact hj)
      have u4' : ∀ j, ¬ j = ((5 : Nat) : Int) → n9 j = I 106 j := fun j hj => u4 j (by show ¬ j = I 101 2; rw [e12]; exact hj)
      have hcB : RB c9 := u5 h8.2.2.2.2
      have w2' : T9 2 = I 101 2 := w2
      have t21 : T9 21 = I 101 21 := u1 21 (by omega)
      have t22 : T9 22 = I 101 22 := u1 22 (by omega)
      have t23 : T9 23 = I 101 23 := u1 23 (by omega)
      have t25 : T9 25 = I 101 25 := u1 25 (by omega)
      refine ⟨⟨by show (0 : Int) = T9 1; omega, ⟨by show (0 : Int) ≤ 0; decide, by show (0 : Int) ≤ 400; decide⟩, h1.2.2.1, fun j j0 j1 => absurd (show j < 0 from j1) (by omega)⟩, h2, ?_, ?_, ?_, ?_, ⟨?_, ?_, ?_, ?_⟩, ⟨h8.1, h8.2.1, h8.2.2.1, fB, hcB⟩⟩
      · have h9 := R3_fr h3 u2' u3' u4' hcB
        rw [← w2', ← t21] at h9
        exact h9
      · rw [← t22] at h4; exact h4
      · rw [← t23] at h5; exact h5
      · rw [← t25] at h6; exact h6
      · rw [← w2'] at h70; exact h70
      · rw [← w2'] at h71; exact h71
      · rw [← w2'] at h72; exact h72
      · rw [← w2'] at h73; exact h73
    · exact absurd (Q_XY (fQ'.sy.tr yQ)) f0
  · refine lwB ?_
    refine xR_cQ rfl rfl rfl (c_185_r ⟨by show TPO (I 102) (I 101 1); rw [eb, en]; exact hT, by show 0 ≤ I 101 2 ∧ I 101 2 ≤ 6; omega⟩) (by omega) (fun r2 I2 L2 G2 hq => ?_)
    obtain ⟨T9, g9, l9, c9, n9, R9, M9, r9, hu, rfl, rfl, rfl, rfl⟩ := hq
    have hu2 := hu.2 (by show ¬ I 101 2 = 6; omega)
    obtain ⟨⟨u1, u2, u3, u4, u5, u6⟩, hcase⟩ := hu2
    obtain ⟨f6, fi, fM, fz, fK, fQ, fB⟩ := hsu
    have fQ' : Q (I 102) (I 101 1) s00 (sY M) := by rw [eb, en]; exact fQ
    rcases hcase with ⟨W, w0, wrg, wQ, -⟩ | ⟨yQ, ⟨z, yC, yz⟩, yn, yn2, rfl, w2⟩
    · exact absurd (Q_XY (wQ.sy.tr fQ')) w0
    · have hM : M = M9 := Q_YY (fQ'.sy.tr yQ)
      subst hM
      have w2' : T9 2 = I 101 2 + 1 := w2
      rw [Nat.sub_zero, Nat.sub_zero]
      refine lwC ⟨⟨⟨by decide, by decide⟩, ⟨by show -2147483648 ≤ I 101 2; omega, by show I 101 2 ≤ 2147483647; omega⟩⟩, fun _ => ?_, fun r => absurd (show (5 : Int) = I 101 2 by omega) r⟩
      refine hg _ _ _ ?_ rfl
      have yC' : CLD g9 c9 ((5 : Nat) : Int) M 0 0 z := by have h9 : CLD g9 c9 (I 101 2) M 0 0 z := yC; rw [e12] at h9; exact h9
      have yn' : (M.length : Int) = n9 ((5 : Nat) : Int) := by have h9 : (M.length : Int) = n9 (I 101 2) := yn; rw [e12] at h9; exact h9
      have u2' : ∀ j, j < 400 * ((5 : Nat) : Int) ∨ 400 * ((5 : Nat) : Int) + 400 ≤ j → g9 j = I 103 j := fun j hj => u2 j (by show j < 400 * I 101 2 ∨ 400 * I 101 2 + 400 ≤ j; rw [e12]; exact hj)
      have u3' : ∀ j, j < 48 * ((5 : Nat) : Int) ∨ 48 * ((5 : Nat) : Int) + 48 ≤ j → c9 j = I 105 j := fun j hj => u3 j (by show j < 48 * I 101 2 ∨ 48 * I 101 2 + 48 ≤ j; rw [e12]; exact hj)
      have u4' : ∀ j, ¬ j = ((5 : Nat) : Int) → n9 j = I 106 j := fun j hj => u4 j (by show ¬ j = I 101 2; rw [e12]; exact hj)
      have hcB : RB c9 := u5 h8.2.2.2.2
      have hKf : KCD f g M 0 0 (U 3) := KCD.rb fK hfa hga (by omega) (fun r => by rw [r] at fM; have : ((0 : Nat) : Int) = i0 + 1 := fM; omega)
      have t21 : T9 21 = I 101 21 := u1 21 (by omega)
      have t22 : T9 22 = I 101 22 := u1 22 (by omega)
      have t23 : T9 23 = I 101 23 := u1 23 (by omega)
      have t25 : T9 25 = I 101 25 := u1 25 (by omega)
      refine ⟨⟨by show (0 : Int) = T9 1; omega, ⟨by show (0 : Int) ≤ 0; decide, by show (0 : Int) ≤ 400; decide⟩, h1.2.2.1, fun j j0 j1 => absurd (show j < 0 from j1) (by omega)⟩, h2, ?_, ?_, ?_, ?_, ⟨?_, ?_, ?_, ?_⟩, ⟨h8.1, h8.2.1, h8.2.2.1, fB, hcB⟩⟩
      · have hA9 : ∀ x9 : Int, 0 ≤ x9 → x9 < ((5 : Nat) : Int) → csel x9 (I 127) (I 130) (I 133) (I 136) (I 139) f = csel x9 (I 127) (I 130) (I 133) (I 136) (I 139) (I 142) := fun x9 f0 f1 => by
          have h9 : x9 = 0 ∨ x9 = 1 ∨ x9 = 2 ∨ x9 = 3 ∨ x9 = 4 := by omega
          rcases h9 with rfl | rfl | rfl | rfl | rfl <;> rfl
        have hB9 : ∀ x9 : Int, 0 ≤ x9 → x9 < ((5 : Nat) : Int) → csel x9 (I 128) (I 131) (I 134) (I 137) (I 140) g = csel x9 (I 128) (I 131) (I 134) (I 137) (I 140) (I 143) := fun x9 f0 f1 => by
          have h9 : x9 = 0 ∨ x9 = 1 ∨ x9 = 2 ∨ x9 = 3 ∨ x9 = 4 := by omega
          rcases h9 with rfl | rfl | rfl | rfl | rfl <;> rfl
        have h9 := R3_new (r := 5) (by decide) h3 hA9 hB9 (show csel ((5 : Nat) : Int) (I 127) (I 130) (I 133) (I 136) (I 139) f = f from rfl) (show csel ((5 : Nat) : Int) (I 128) (I 131) (I 134) (I 137) (I 140) g = g from rfl) u2' u3' u4' hcB yC' yz.2 yn' fM fi hKf fz hgB (s00_wf yQ)
        have h10 : ∀ x y : Int, x = ((5 : Nat) : Int) + 1 → y = I 101 21 → R3 (((5 : Nat) : Int) + 1) x (I 6 2) y (gD1 5 D2 (U 3).toNat (2 * i0 + 3).toNat) (I 127) (I 128) (I 130) (I 131) (I 133) (I 134) (I 136) (I 137) (I 139) (I 140) f g g9 c9 n9 := by
          intro x y hx hy
          rw [hx, hy]
          exact h9
        exact h10 _ _ (show T9 2 = ((5 : Nat) : Int) + 1 by omega) t21
      · rw [← t22] at h4; exact h4
      · rw [← t23] at h5; exact h5
      · rw [← t25] at h6; exact h6
      · exact h70.mono (by show I 101 2 ≤ T9 2; omega)
      · exact h71.mono (by show I 101 2 ≤ T9 2; omega)
      · exact h72.mono (by show I 101 2 ≤ T9 2; omega)
      · exact h73.mono (by show I 101 2 ≤ T9 2; omega)
theorem lr_6 {I : XI} {L : XL} {D2 : (Nat → Nat) × (Nat → Nat) × ((Int → Int) × Nat)} {d c s : Nat} {post : XQ} {i : Int} (hd : 100 ≤ d) (hrel : REL I (6, D2)) (hc : 3 ≤ c) (hs : 802 ≤ s) (hg : ∀ I2 L2 D3, REL I2 D3 → D3.2.2.2 = D2.2.2 → xR d 264 es_264 10 [xt 2, xr (some 0), xr (some 101), xi (i + 6)] [] I2 L2 (gG D3) (c - 3) (s - 802) post) : xR d 264 es_264 103 [xt 2, xr (some 0), xr (some 101), xi i] [] I L (gG (6, D2)) c s post := by
  obtain ⟨h1, h2, h3, h4, h5, h6, ⟨h70, h71, h72, h73⟩, h8⟩ := hrel
  have hT : TPO (I 2) (I 1 6) := ⟨h1.2.1, h1.2.2.2⟩
  have e04 : I 0 4 = 6 := h3.1
  have e12 : I 101 2 = 6 := h3.2.1
  have eb : I 102 = I 2 := h1.2.2.1.symm
  have en : I 101 1 = I 1 6 := h1.1.symm
  have xc : ∀ {st : List XV} {n rt m' kd : Nat} {G : XG}, (Nat.ble n st.length && Nat.ble (xents (st.take n).reverse).length (mL m') && (Nat.beq rt 0 || (match st[n - 1]? with
    | some (.inr (.inr (.inl (some i)))) => Nat.beq (G.2.1 i).1 rt
    | _ => false)) && Nat.ble kd 3 && Nat.ble (xwds (st.drop n)) 8) = true → xcc st n rt m' kd G c 3 s 802 = true := by
    intro st n rt m' kd G h
    unfold xcc
    rw [Bool.and_eq_true, Bool.and_eq_true, Nat.ble_eq, Nat.ble_eq]
    exact ⟨⟨h, hc⟩, hs⟩
  refine lwA ?_
  refine xR_cQ rfl rfl (xc rfl) (c116_6 e04) (by omega) (fun r2 I2 L2 G2 hq => ?_)
  obtain ⟨rfl, rfl, rfl, rfl⟩ := hq
  refine lwB ?_
  refine xR_cQ rfl rfl rfl (c_185_r ⟨by rw [eb, en]; exact hT, by omega⟩) (by omega) (fun r2 I2 L2 G2 hq => ?_)
  obtain ⟨T9, g9, l9, c9, n9, R9, M9, r9, hu, rfl, rfl, rfl, rfl⟩ := hq
  obtain ⟨rfl, rfl, rfl, rfl, rfl⟩ := hu.1 e12
  rw [Nat.sub_zero, Nat.sub_zero]
  refine lwC ⟨⟨⟨by decide, by decide⟩, ⟨by decide, by decide⟩⟩, fun _ => ?_, fun r => absurd rfl r⟩
  exact hg _ _ (6, D2) ⟨h1, h2, h3, h4, h5, h6, ⟨h70, h71, h72, h73⟩, h8⟩ rfl
theorem law_rule : LawRule := by
  intro I L D d c s post i hd hi hsc hrel hc hs hg
  obtain ⟨r, D2⟩ := D
  have h6 : r ≤ 6 := hrel.2.2.1.2.2.1
  have : r = 0 ∨ r = 1 ∨ r = 2 ∨ r = 3 ∨ r = 4 ∨ r = 5 ∨ r = 6 := by omega
  rcases this with rfl | rfl | rfl | rfl | rfl | rfl | rfl
  · exact lr_0 hd hrel hc hs hg
  · exact lr_1 hd hrel hc hs hg
  · exact lr_2 hd hrel hc hs hg
  · exact lr_3 hd hrel hc hs hg
  · exact lr_4 hd hrel hc hs hg
  · exact lr_5 hd hrel hc hs hg
  · exact lr_6 hd hrel hc hs hg
