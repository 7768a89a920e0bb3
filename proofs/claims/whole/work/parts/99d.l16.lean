/-! a feast: both say the same -/
def RDZ (rd : Int → Int) : Prop := (∀ s, rd 3 ≤ s → s < 10 → rd (26 + s) = 0 ∧ rd (36 + s) = 0) ∧ (∀ g, rd 4 ≤ g → g < 5 → rd (46 + g) = 0)
theorem RDZ_fcr {b : Int → Int} {n q ln : Int} {rd : Int → Int} (hR : RDI rd) (hz : RDZ rd) (q0 : 0 ≤ q) (qn : q ≤ n) (h : fcw b n q ln (rd 0) (rd 3) (rd 4) = 0) : RDZ (fcr b n q rd) := by
  obtain ⟨_, _, hk⟩ := fcw_0 h q0
  have hr := hR.1
  obtain ⟨z1, z2⟩ := hz
  have h1 := fq1_in (b := b) qn
  have h2 := fqn_in (b := b) h1.2
  unfold fwk at hk
  unfold fcr
  by_cases c12 : tw b n q = 12
  · rw [if_pos c12]
    have e : ∀ j, 3 ≤ j → j < 51 → frc b n q rd j = rd j := by
      intro j j0 j1
      unfold frc lk1
      rw [if_neg (by omega), xup_ne _ _ (by omega), xup_ne _ _ (by omega), xup_ne _ _ (by omega)]
    refine ⟨fun s s0 s1 => ?_, fun g g0 g1 => ?_⟩
    · rw [e 3 (by omega) (by omega)] at s0
      rw [e _ (by omega) (by omega), e _ (by omega) (by omega)]; exact z1 s s0 s1
    · rw [e 4 (by omega) (by omega)] at g0
      rw [e _ (by omega) (by omega)]; exact z2 g g0 g1
  · rw [if_neg c12] at hk ⊢
    have hr0 : ¬ rd 0 = 0 := fun e => by rw [if_pos e] at hk; omega
    rw [if_neg hr0] at hk
    by_cases c1 : tw b n q = 1
    · rw [if_pos c1] at hk ⊢
      have hn10 := (fws_0 hk q0).1
      have e3 : frs b n q rd 3 = rd 3 + 1 := xup_same _ _ _
      have e : ∀ j, ¬ j = 3 → ¬ j = 26 + rd 3 → ¬ j = 36 + rd 3 → frs b n q rd j = rd j := by
        intro j j0 j1 j2
        unfold frs
        rw [xup_ne _ _ j0, xup_ne _ _ j2, xup_ne _ _ j1]
      refine ⟨fun s s0 s1 => ?_, fun g g0 g1 => ?_⟩
      · rw [e3] at s0
        rw [e _ (by omega) (by omega) (by omega), e _ (by omega) (by omega) (by omega)]; exact z1 s (by omega) s1
      · rw [e 4 (by omega) (by omega) (by omega)] at g0
        rw [e _ (by omega) (by omega) (by omega)]; exact z2 g g0 g1
    · rw [if_neg c1] at hk ⊢
      by_cases c0 : tw b n q = 0
      · rw [if_pos c0]
        have e4 : frg b n q rd 4 = rd 4 + 1 := xup_same _ _ _
        have e : ∀ j, ¬ j = 4 → ¬ j = 46 + rd 4 → frg b n q rd j = rd j := by
          intro j j0 j1
          unfold frg
          rw [xup_ne _ _ j0, xup_ne _ _ j1]
        refine ⟨fun s s0 s1 => ?_, fun g g0 g1 => ?_⟩
        · rw [e 3 (by omega) (by omega)] at s0
          rw [e _ (by omega) (by omega), e _ (by omega) (by omega)]; exact z1 s s0 s1
        · rw [e4] at g0
          rw [e _ (by omega) (by omega)]; exact z2 g (by omega) g1
      · rw [if_neg c0] at hk ⊢
        obtain ⟨a1, a2, a3⟩ := fwl_0 hk
        have g1 := (nf_dg a1 (by omega)).2
        have g2 := (nf_dg a2 (by omega)).2
        have e : ∀ j, j < 51 → frl b n q rd j = rd j := by
          intro j j0
          unfold frl
          rw [xup_ne _ _ (by omega)]
        refine ⟨fun s s0 s1 => ?_, fun g g0 g1 => ?_⟩
        · rw [e 3 (by omega)] at s0
          rw [e _ (by omega), e _ (by omega)]; exact z1 s s0 s1
        · rw [e 4 (by omega)] at g0
          rw [e _ (by omega)]; exact z2 g g0 g1
def Ag71 (a b : Int → Int) : Prop := ∀ j, 0 ≤ j → j < 71 → a j = b j
theorem fcr_ag {b : Int → Int} {n q : Int} {rd sd : Int → Int} (h : Ag71 rd sd) : Ag71 (fcr b n q rd) (fcr b n q sd) := by
  intro j j0 j1
  have e3 := h 3 (by decide) (by decide)
  have e4 := h 4 (by decide) (by decide)
  have ej := h j j0 j1
  unfold fcr
  by_cases c12 : tw b n q = 12
  · rw [if_pos c12, if_pos c12]
    unfold frc lk1
    by_cases q1 : 51 ≤ j ∧ j < 51 + 20
    · rw [if_pos q1, if_pos q1]
    · rw [if_neg q1, if_neg q1]
      simp only [xup, ej]
  · rw [if_neg c12, if_neg c12]
    by_cases c1 : tw b n q = 1
    · rw [if_pos c1, if_pos c1]
      unfold frs
      simp only [xup, ej, e3]
    · rw [if_neg c1, if_neg c1]
      by_cases c0 : tw b n q = 0
      · rw [if_pos c0, if_pos c0]
        unfold frg
        simp only [xup, ej, e4]
      · rw [if_neg c0, if_neg c0]
        unfold frl
        simp only [xup, ej]
theorem fra_all {b : Int → Int} {n : Int} : ∀ (r : Nat) (ln p : Int) (rd sd : Int → Int), 0 ≤ p → p ≤ n → RDI rd → RDZ rd → Ag71 rd sd → (fra b n r ln p rd).1 = (fra b n r ln p sd).1 ∧ ((fra b n r ln p rd).1 = 0 → RDZ (fra b n r ln p rd).2 ∧ (fra b n r ln p rd).2 0 = 1 ∧ Ag71 (fra b n r ln p rd).2 (fra b n r ln p sd).2) := by
  intro r
  induction r with
  | zero => intro ln p rd sd _ _ _ _ _; exact ⟨rfl, fun h => absurd (show (1 : Int) = 0 from h) (by decide)⟩
  | succ r ih =>
    intro ln p rd sd p0 pn hR hZ hA
    have hs := sk_in (b := b) pn
    have e0 := hA 0 (by decide) (by decide)
    have e3 := hA 3 (by decide) (by decide)
    have e4 := hA 4 (by decide) (by decide)
    rw [fra_s, fra_s, ← e0, ← e3, ← e4]
    by_cases w0 : fcw b n (sk b n p) ln (rd 0) (rd 3) (rd 4) = 0
    · rw [if_neg (fun r => r w0), if_neg (fun r => r w0)]
      have hR2 := RDI_fcr hR (by omega) (by omega) w0
      have hZ2 := RDZ_fcr hR hZ (by omega) (by omega) w0
      have hA2 := fcr_ag (b := b) (n := n) (q := sk b n p) hA
      have h01 := fcr_0 hR w0 (by omega) (by omega)
      have hp := fcp_in (b := b) (n := n) (p := sk b n p) (by omega)
      have hs2 := sk_in (b := b) hp.2
      unfold frt
      by_cases c : tc b n (sk b n (fcp b n (sk b n p))) = 59
      · rw [if_pos c, if_pos c]
        have := tc_lt c
        exact ih _ _ _ _ (by omega) (by omega) hR2 hZ2 hA2
      · rw [if_neg c, if_neg c]
        by_cases c2 : tc b n (sk b n (fcp b n (sk b n p))) = -1
        · rw [if_pos c2, if_pos c2]; exact ⟨rfl, fun _ => ⟨hZ2, h01, hA2⟩⟩
        · rw [if_neg c2, if_neg c2]
          exact ⟨rfl, fun h => absurd (show 1 + 8 * sk b n (fcp b n (sk b n p)) + 0 = 0 from h) (by omega)⟩
    · rw [if_pos w0, if_pos w0]
      exact ⟨rfl, fun h => absurd h w0⟩
theorem RDZ_0 {f : Int → Int} : RDZ (xfl f 0 71) := by
  have e : ∀ j, 0 ≤ j → j < 71 → xfl f 0 71 j = 0 := fun j j0 j1 => if_pos ⟨j0, j1⟩
  have e3 := e 3 (by decide) (by decide)
  have e4 := e 4 (by decide) (by decide)
  exact ⟨fun s s0 s1 => ⟨e _ (by omega) (by omega), e _ (by omega) (by omega)⟩, fun g g0 g1 => e _ (by omega) (by omega)⟩
theorem R2_feast {F9 K9 Z9 R9 L9 W9 R F0 K0 Z0 T3 L0 W0 T0 O0 U0 P0 : Int → Int} (hF : FRR F9 K9 Z9 R9 L9 R) (hR : RDI R) (hZ : RDZ R) (h0 : R 0 = 1) (f0 : F9 0 = 1) (hW : ∀ g s, 0 ≤ g → g < F9 4 → 0 ≤ s → s < F9 3 → W9 (g * 10 + s) = Z9 s * L9 (g * 4 + K9 s)) : R2 (xup (xup (xup (xup (xup F0 0 (F9 0)) 1 (F9 1)) 2 (F9 2)) 3 (F9 3)) 4 (F9 4)) (xcp K9 K0 0 0 10) (xcp Z9 Z0 0 0 10) (xcp R9 T3 0 0 5) (xcp L9 L0 0 0 20) (xcp W9 W0 0 0 50) (xup (xup T0 1 (F9 1)) 2 0) (xfl O0 (-1) 10) (xcp (xcp R9 T3 0 0 5) U0 0 0 5) (pbeg (srow R P0 102)) := by
  obtain ⟨⟨r0, r3, r4⟩, r1, r2, rk, rz, ru, rl⟩ := hR
  obtain ⟨f3, f4, -, f5, f6, f7⟩ := hF
  obtain ⟨f1, f2, fl⟩ := f5 (by omega)
  obtain ⟨z1, z2⟩ := hZ
  have es : ∀ j, 0 ≤ j → j < 71 → srow R P0 102 j = R j := fun j j0 j1 => by
    unfold srow
    rw [if_pos (by omega), if_pos j1]
  have eb : ∀ j, (0 ≤ j ∧ j < 10) ∨ (26 ≤ j ∧ j < 71) → pbeg (srow R P0 102) j = R j := fun j hj => by
    unfold pbeg
    rw [if_neg (by omega), if_neg (by omega), if_neg (by omega)]
    exact es j (by omega) (by omega)
  have e10 : pbeg (srow R P0 102) 10 = 0 := if_pos rfl
  have eo : ∀ j, 11 ≤ j → j < 21 → pbeg (srow R P0 102) j = -1 := fun j j0 j1 => by
    unfold pbeg
    rw [if_neg (by omega), if_pos ⟨j0, j1⟩]
  have eu : ∀ j, 21 ≤ j → j < 26 → pbeg (srow R P0 102) j = R (25 + j) := fun j j0 j1 => by
    unfold pbeg
    rw [if_neg (by omega), if_neg (by omega), if_pos ⟨j0, j1⟩]
    exact es _ (by omega) (by omega)
  have hP : pbeg (srow R P0 102) = cvw (xup (xup (xup (xup (xup F0 0 (F9 0)) 1 (F9 1)) 2 (F9 2)) 3 (F9 3)) 4 (F9 4)) (xcp K9 K0 0 0 10) (xcp Z9 Z0 0 0 10) (xcp R9 T3 0 0 5) (xcp L9 L0 0 0 20) (xup (xup T0 1 (F9 1)) 2 0) (xfl O0 (-1) 10) (xcp (xcp R9 T3 0 0 5) U0 0 0 5) (pbeg (srow R P0 102)) := by
    funext j
    have g0 : (xup (xup (xup (xup (xup F0 0 (F9 0)) 1 (F9 1)) 2 (F9 2)) 3 (F9 3)) 4 (F9 4)) 0 = F9 0 := rfl
    have g2 : (xup (xup (xup (xup (xup F0 0 (F9 0)) 1 (F9 1)) 2 (F9 2)) 3 (F9 3)) 4 (F9 4)) 2 = F9 2 := rfl
    have g3 : (xup (xup (xup (xup (xup F0 0 (F9 0)) 1 (F9 1)) 2 (F9 2)) 3 (F9 3)) 4 (F9 4)) 3 = F9 3 := rfl
    have g4 : (xup (xup (xup (xup (xup F0 0 (F9 0)) 1 (F9 1)) 2 (F9 2)) 3 (F9 3)) 4 (F9 4)) 4 = F9 4 := rfl
    have g1 : (xup (xup T0 1 (F9 1)) 2 0) 1 = F9 1 := rfl
    have gt : (xup (xup T0 1 (F9 1)) 2 0) 2 = 0 := rfl
    unfold cvw
    rw [g0, g1, g2, g3, g4, gt]
    by_cases j0 : j = 0
    · subst j0; rw [if_pos rfl, eb 0 (by omega)]; omega
    rw [if_neg j0]
    by_cases j1 : j = 1
    · subst j1; rw [if_pos rfl, eb 1 (by omega)]; omega
    rw [if_neg j1]
    by_cases j2 : j = 2
    · subst j2; rw [if_pos rfl, eb 2 (by omega)]; omega
    rw [if_neg j2]
    by_cases j3 : j = 3
    · subst j3; rw [if_pos rfl, eb 3 (by omega)]; omega
    rw [if_neg j3]
    by_cases j4 : j = 4
    · subst j4; rw [if_pos rfl, eb 4 (by omega)]; omega
    rw [if_neg j4]
    by_cases j10 : j = 10
    · subst j10; rw [if_pos rfl, e10]
    rw [if_neg j10]
    by_cases jo : 11 ≤ j ∧ j < 21
    · rw [if_pos jo, eo j jo.1 jo.2]
      exact (if_pos ⟨by omega, by omega⟩).symm
    rw [if_neg jo]
    by_cases ju : 21 ≤ j ∧ j < 26
    · rw [if_pos ju, eu j ju.1 ju.2]
      by_cases q : j - 21 < F9 4
      · rw [if_pos q, xcp0 (by omega) (by omega), xcp0 (by omega) (by omega), f7 (j - 21) (by omega) (by omega), show 46 + (j - 21) = 25 + j by omega]
      · rw [if_neg q, show 25 + j = 46 + (j - 21) by omega]; exact z2 _ (by omega) (by omega)
    rw [if_neg ju]
    by_cases jk : 26 ≤ j ∧ j < 36
    · rw [if_pos jk, eb j (by omega)]
      by_cases q : j - 26 < F9 3
      · rw [if_pos q, xcp0 (by omega) (by omega), (f6 (j - 26) (by omega) (by omega)).1, show 26 + (j - 26) = j by omega]
      · rw [if_neg q]
        have := (z1 (j - 26) (by omega) (by omega)).1
        rw [show 26 + (j - 26) = j by omega] at this
        exact this
    rw [if_neg jk]
    by_cases jz : 36 ≤ j ∧ j < 46
    · rw [if_pos jz, eb j (by omega)]
      by_cases q : j - 36 < F9 3
      · rw [if_pos q, xcp0 (by omega) (by omega), (f6 (j - 36) (by omega) (by omega)).2, show 36 + (j - 36) = j by omega]
      · rw [if_neg q]
        have := (z1 (j - 36) (by omega) (by omega)).2
        rw [show 36 + (j - 36) = j by omega] at this
        exact this
    rw [if_neg jz]
    by_cases jr : 46 ≤ j ∧ j < 51
    · rw [if_pos jr, eb j (by omega)]
      by_cases q : j - 46 < F9 4
      · rw [if_pos q, xcp0 (by omega) (by omega), f7 (j - 46) (by omega) (by omega), show 46 + (j - 46) = j by omega]
      · rw [if_neg q]
        have := z2 (j - 46) (by omega) (by omega)
        rw [show 46 + (j - 46) = j by omega] at this
        exact this
    rw [if_neg jr]
    by_cases jl : 51 ≤ j ∧ j < 71
    · rw [if_pos jl, eb j (by omega), xcp0 (by omega) (by omega), fl (j - 51) (by omega) (by omega), show 51 + (j - 51) = j by omega]
    rw [if_neg jl]
  have hS : SO (pbeg (srow R P0 102)) := by
    have b0 := eb 0 (by omega)
    have b1 := eb 1 (by omega)
    have b2 := eb 2 (by omega)
    have b3 := eb 3 (by omega)
    have b4 := eb 4 (by omega)
    refine ⟨by omega, by omega, by omega, by omega, by omega, by omega, fun s s0 s1 => ?_, fun g g0 g1 => ?_, fun s s0 s1 => ?_, fun s s0 s1 => ?_, fun g g0 g1 => ?_, fun j j0 j1 => ?_⟩
    · rw [eo _ (by omega) (by omega)]; omega
    · rw [eu _ (by omega) (by omega), show 25 + (21 + g) = 46 + g by omega]; exact ru g g0 g1
    · rw [eb _ (by omega)]; exact rk s s0 s1
    · rw [eb _ (by omega)]; exact rz s s0 s1
    · rw [eb _ (by omega)]; exact ru g g0 g1
    · rw [eb _ (by omega)]; exact rl j j0 j1
  refine ⟨hP, ⟨by rw [← hP]; exact hS, fun g s g0 g1 s0 s1 => ?_⟩, (by decide : (0 : Int) ≤ 999), rfl⟩
  have g1' : g < F9 4 := g1
  have s1' : s < F9 3 := s1
  have hk := f6 s s0 (by omega)
  have hkr := rk s s0 (by omega)
  rw [xcp0 (by omega) (by omega), xcp0 s0 (by omega), xcp0 s0 (by omega), xcp0 (by omega) (by omega), show 10 * g + s = g * 10 + s by omega, show 4 * g + K9 s = g * 4 + K9 s by omega]
  exact hW g s g0 g1' s0 s1'
set_option maxRecDepth 8000 in
theorem sg_115_0_fe {d : Nat} {I : XI} {L : XL} {D : GD} {post : XQ}   (h : xR d 115 es_115 4 [xr (some 0), xt 0] [xr (some 1), xr (some 25)] I L (gG D) 0 0 post) : xR d 115 es_115 0 [xr (some 0), xt 0] [] I L (gG D) 0 0 post := xW_R (fun k => Nat.beq k 4 || Nat.beq k 23 || Nat.beq k 27 || Nat.beq k 34) 4 _ _ _ _ _ _ _ _ _ _ _ _ h
set_option maxRecDepth 8000 in
theorem sg_115_5_fe {d : Nat} {I : XI} {L : XL} {D : GD} {post : XQ}  {w0 : Int} (h : ((-2147483648 ≤ w0 ∧ w0 ≤ 2147483647) ∧ ((¬ w0 = 0 → xR d 115 es_115 23 [xr (some 0), xi w0] [xr (some 25), xr (some 10)] (xwr I 1 (6 : Int) (0 : Int)) L (gG D) 0 0 post) ∧ (w0 = 0 → post (some (xi ((-2 : Int) - (I 1 (10 : Int))))) (xwr I 1 (6 : Int) (0 : Int)) L (gG D))))) : xR d 115 es_115 5 [xr (some 0), xt 0] [xi w0] I L (gG D) 0 0 post := xW_R (fun k => Nat.beq k 4 || Nat.beq k 23 || Nat.beq k 27 || Nat.beq k 34) 13 _ _ _ _ _ _ _ _ _ _ _ _ h
set_option maxRecDepth 8000 in
theorem sg_115_24_fe {d : Nat} {I : XI} {L : XL} {D : GD} {post : XQ}  {u1 : Int} (h : xR d 115 es_115 27 [xr (some 0), xi u1] [xr (some 16)] I L (gG D) 0 0 post) : xR d 115 es_115 24 [xr (some 0), xi u1] [] I L (gG D) 0 0 post := xW_R (fun k => Nat.beq k 4 || Nat.beq k 23 || Nat.beq k 27 || Nat.beq k 34) 3 _ _ _ _ _ _ _ _ _ _ _ _ h
set_option maxRecDepth 8000 in
theorem sg_115_28_fe {d : Nat} {I : XI} {L : XL} {D : GD} {post : XQ}  {u1 : Int} (h : xR d 115 es_115 34 [xr (some 0), xi u1] [xr (some 88)] (xwr I 6 (4 : Int) (0 : Int)) L (gG D) 0 0 post) : xR d 115 es_115 28 [xr (some 0), xi u1] [] I L (gG D) 0 0 post := xW_R (fun k => Nat.beq k 4 || Nat.beq k 23 || Nat.beq k 27 || Nat.beq k 34) 6 _ _ _ _ _ _ _ _ _ _ _ _ h
set_option maxRecDepth 8000 in
theorem sg_115_35_fe {d : Nat} {I : XI} {L : XL} {D : GD} {post : XQ}  {u1 : Int} (h : post (some (xi (I 10 (3 : Int)))) I L (gG D)) : xR d 115 es_115 35 [xr (some 0), xi u1] [] I L (gG D) 0 0 post := xW_R (fun k => Nat.beq k 4 || Nat.beq k 23 || Nat.beq k 27 || Nat.beq k 34) 5 _ _ _ _ _ _ _ _ _ _ _ _ h
set_option maxRecDepth 8000 in
theorem w_115_fe {d : Nat} {I : XI} {L : XL} {D : GD} {post : XQ}    (hd : 14 ≤ d) (h : (TPO (I 2) (I 1 (6 : Int)) ∧ (∀ (e4067 : Int → Int) (e4068 : Int → Int) (e4069 : Int → Int) (e4070 : Int → Int) (e4071 : Int → Int) (e4072 : Int → Int) (e4073 : Int → Int) (e4074 : Int → Int) (e4075 : Int → Int) (e4076 : Int → Int), ((e4067 10 = (fra (I 2) (I 1 (6 : Int)) 41 0 0 (fun _ => 0)).1 ∧ ((fra (I 2) (I 1 (6 : Int)) 41 0 0 (fun _ => 0)).1 = 0 → e4071 0 = 1 ∧ FRR e4071 e4072 e4073 e4074 e4075 (fra (I 2) (I 1 (6 : Int)) 41 0 0 (fun _ => 0)).2 ∧ RDI (fra (I 2) (I 1 (6 : Int)) 41 0 0 (fun _ => 0)).2 ∧ (∀ g s, 0 ≤ g → g < e4071 4 → 0 ≤ s → s < e4071 3 → e4076 (g * 10 + s) = e4073 s * e4075 (g * 4 + e4072 s)))) → ((((fra (I 2) (I 1 (6 : Int)) 41 0 0 (fun _ => 0)).1 = 0 → ((e4071 (0 : Int) = 0 ∨ e4071 (0 : Int) = 1) ∧ post (some (xi (e4071 (3 : Int)))) (xsc (xsc (xsc (xsc (xsc (xsc (xsc (xsc (xsc (xsc (xsc (xsc (xsc (xsc (xsc (xsc (xsc (xsc (xsc (xsc (xsc I 1 (xup e4067 (6 : Int) (0 : Int))) 3 e4068) 4 e4069) 5 e4070) 6 (xup (I 6) (4 : Int) (0 : Int))) 10 (xup (xup (xup (xup (xup (I 10) (0 : Int) (e4071 (0 : Int))) (1 : Int) (e4071 (1 : Int))) (2 : Int) (e4071 (2 : Int))) (3 : Int) (e4071 (3 : Int))) (4 : Int) (e4071 (4 : Int)))) 11 (xcp e4072 (I 11) 0 0 10)) 12 (xcp e4073 (I 12) 0 0 10)) 13 (xcp e4074 (I 13) 0 0 5)) 14 (xcp e4075 (I 14) 0 0 20)) 15 (xcp e4076 (I 15) 0 0 50)) 16 (xup (xup (I 16) (1 : Int) (e4071 (1 : Int))) (2 : Int) 0)) 17 (xfl (I 17) (-1) 10)) 18 (xcp (xcp e4074 (I 13) 0 0 5) (I 18) 0 0 5)) 25 e4071) 26 e4072) 27 e4073) 28 e4074) 29 e4075) 30 e4076) 88 (xup (I 88) (0 : Int) 0)) L (gG D))) ∧ (¬ ((fra (I 2) (I 1 (6 : Int)) 41 0 0 (fun _ => 0)).1 = 0) → post (some (xi ((-2 : Int) - (e4067 (10 : Int))))) (xsc (xsc (xsc (xsc (xsc (xsc (xsc (xsc (xsc (xsc I 1 (xup e4067 (6 : Int) (0 : Int))) 3 e4068) 4 e4069) 5 e4070) 25 e4071) 26 e4072) 27 e4073) 28 e4074) 29 e4075) 30 e4076) L (gG D)))))))) : xR d 115 es_115 0 [xr (some 0), xt 0] [] I L (gG D) 0 0 post := sg_115_0_fe  ((xR_cQ rfl rfl rfl (c_12 h.1) (by omega) (fun _ _ _ _ hx4079 => by obtain ⟨e4067, e4068, e4069, e4070, e4071, e4072, e4073, e4074, e4075, e4076, hp4080, rfl, rfl, rfl, rfl⟩ := hx4079; exact (sg_115_5_fe  ⟨(xb_rg _), ⟨fun q4077 => (xR_cF rfl rfl rfl (c_7_10_25 ((h.2 e4067 e4068 e4069 e4070 e4071 e4072 e4073 e4074 e4075 e4076 hp4080).1 (xb_n0 q4077)).1) (by omega) (sg_115_24_fe  (xR_cF rfl rfl rfl c_80_16 (by omega) (sg_115_28_fe  (xR_cF rfl rfl rfl c_1 (by omega) (sg_115_35_fe  (xpost ((h.2 e4067 e4068 e4069 e4070 e4071 e4072 e4073 e4074 e4075 e4076 hp4080).1 (xb_n0 q4077)).2 (funext fun i => (xpt rfl (fun h88_ => (xpt rfl (fun h30_ => (xpt rfl (fun h29_ => (xpt rfl (fun h28_ => (xpt rfl (fun h27_ => (xpt rfl (fun h26_ => (xpt rfl (fun h25_ => (xpt rfl (fun h18_ => (xpt rfl (fun h17_ => (xpt rfl (fun h16_ => (xpt rfl (fun h15_ => (xpt rfl (fun h14_ => (xpt rfl (fun h13_ => (xpt rfl (fun h12_ => (xpt rfl (fun h11_ => (xpt rfl (fun h10_ => (xpt rfl (fun h6_ => (xpt rfl (fun h5_ => (xpt rfl (fun h4_ => (xpt rfl (fun h3_ => (xpt rfl (fun h1_ => (by simp only [xsc_ne _ _ h1_, xwr_ne _ _ _ h1_, xsc_ne _ _ h3_, xwr_ne _ _ _ h3_, xsc_ne _ _ h4_, xwr_ne _ _ _ h4_, xsc_ne _ _ h5_, xwr_ne _ _ _ h5_, xsc_ne _ _ h6_, xwr_ne _ _ _ h6_, xsc_ne _ _ h10_, xwr_ne _ _ _ h10_, xsc_ne _ _ h11_, xwr_ne _ _ _ h11_, xsc_ne _ _ h12_, xwr_ne _ _ _ h12_, xsc_ne _ _ h13_, xwr_ne _ _ _ h13_, xsc_ne _ _ h14_, xwr_ne _ _ _ h14_, xsc_ne _ _ h15_, xwr_ne _ _ _ h15_, xsc_ne _ _ h16_, xwr_ne _ _ _ h16_, xsc_ne _ _ h17_, xwr_ne _ _ _ h17_, xsc_ne _ _ h18_, xwr_ne _ _ _ h18_, xsc_ne _ _ h25_, xwr_ne _ _ _ h25_, xsc_ne _ _ h26_, xwr_ne _ _ _ h26_, xsc_ne _ _ h27_, xwr_ne _ _ _ h27_, xsc_ne _ _ h28_, xwr_ne _ _ _ h28_, xsc_ne _ _ h29_, xwr_ne _ _ _ h29_, xsc_ne _ _ h30_, xwr_ne _ _ _ h30_, xsc_ne _ _ h88_, xwr_ne _ _ _ h88_])))))))))))))))))))))))))))))))))))))))))))) rfl))))))), fun q4078 => (xpost ((h.2 e4067 e4068 e4069 e4070 e4071 e4072 e4073 e4074 e4075 e4076 hp4080).2 (xb_0 q4078)) (funext fun i => (xpt rfl (fun h30_ => (xpt rfl (fun h29_ => (xpt rfl (fun h28_ => (xpt rfl (fun h27_ => (xpt rfl (fun h26_ => (xpt rfl (fun h25_ => (xpt rfl (fun h5_ => (xpt rfl (fun h4_ => (xpt rfl (fun h3_ => (xpt rfl (fun h1_ => (by simp only [xsc_ne _ _ h1_, xwr_ne _ _ _ h1_, xsc_ne _ _ h3_, xwr_ne _ _ _ h3_, xsc_ne _ _ h4_, xwr_ne _ _ _ h4_, xsc_ne _ _ h5_, xwr_ne _ _ _ h5_, xsc_ne _ _ h25_, xwr_ne _ _ _ h25_, xsc_ne _ _ h26_, xwr_ne _ _ _ h26_, xsc_ne _ _ h27_, xwr_ne _ _ _ h27_, xsc_ne _ _ h28_, xwr_ne _ _ _ h28_, xsc_ne _ _ h29_, xwr_ne _ _ _ h29_, xsc_ne _ _ h30_, xwr_ne _ _ _ h30_])))))))))))))))))))))) rfl)⟩⟩))))
theorem RDI_ag {a b : Int → Int} (h : Ag71 a b) (hb : RDI b) : RDI a := by
  obtain ⟨⟨r0, r3, r4⟩, r1, r2, rk, rz, ru, rl⟩ := hb
  refine ⟨⟨by rw [h 0 (by decide) (by decide)]; exact r0, by rw [h 3 (by decide) (by decide)]; exact r3, by rw [h 4 (by decide) (by decide)]; exact r4⟩, by rw [h 1 (by decide) (by decide)]; exact r1, by rw [h 2 (by decide) (by decide)]; exact r2, fun s s0 s1 => by rw [h _ (by omega) (by omega)]; exact rk s s0 s1, fun s s0 s1 => by rw [h _ (by omega) (by omega)]; exact rz s s0 s1, fun s s0 s1 => by rw [h _ (by omega) (by omega)]; exact ru s s0 s1, fun s s0 s1 => by rw [h _ (by omega) (by omega)]; exact rl s s0 s1⟩
theorem FRR_ag {F K Z R L a b : Int → Int} (h : Ag71 a b) (hr : RDI b) (hb : FRR F K Z R L b) : FRR F K Z R L a := by
  obtain ⟨f3, f4, f5, f6, f7, f8⟩ := hb
  have h3 := h 3 (by decide) (by decide)
  have h4 := h 4 (by decide) (by decide)
  have h0 := h 0 (by decide) (by decide)
  have hr3 := hr.1.2
  refine ⟨by omega, by omega, fun q => f5 (by omega), fun q => ?_, fun s s0 s1 => ?_, fun g g0 g1 => ?_⟩
  · obtain ⟨a1, a2, a3⟩ := f6 (by omega)
    exact ⟨by rw [h 1 (by decide) (by decide)]; exact a1, by rw [h 2 (by decide) (by decide)]; exact a2, fun j j0 j1 => by rw [h _ (by omega) (by omega)]; exact a3 j j0 j1⟩
  · rw [h _ (by omega) (by omega), h _ (by omega) (by omega)]; exact f7 s s0 (by omega)
  · rw [h _ (by omega) (by omega)]; exact f8 g g0 (by omega)
theorem c_115 {I : XI} {L : XL} {D : GD}    (h : TPO (I 2) (I 1 (6 : Int))) : xM 14 115 [xr (some 0)] I L (gG D) (0, 0) (fun r2 I2 L2 G2 => ∃ (T9 : Int → Int) (Pc9 : Int → Int) (Pl9 : Int → Int) (Nm9 : Int → Int) (F9 : Int → Int) (K9 : Int → Int) (Z9 : Int → Int) (R9 : Int → Int) (L9 : Int → Int) (W9 : Int → Int) (F8 : Int → Int) (K8 : Int → Int) (Z8 : Int → Int) (R8 : Int → Int) (L8 : Int → Int) (W8 : Int → Int) (T8 : Int → Int) (O8 : Int → Int) (U8 : Int → Int) (n8 : Int) (a8 : Int), (T9 6 = 0 ∧ ((fra (I 2) (I 1 (6 : Int)) 41 0 0 (fun _ => 0)).1 = 0 → F8 3 = (fra (I 2) (I 1 (6 : Int)) 41 0 0 (fun _ => 0)).2 3 ∧ n8 = 0 ∧ a8 = 0 ∧ (∀ R P0, RDZ R → R 0 = 1 → Ag71 R (fra (I 2) (I 1 (6 : Int)) 41 0 0 (fun _ => 0)).2 → R2 F8 K8 Z8 R8 L8 W8 T8 O8 U8 (pbeg (srow R P0 102)))) ∧ (¬ (fra (I 2) (I 1 (6 : Int)) 41 0 0 (fun _ => 0)).1 = 0 → F8 = (I 10) ∧ K8 = (I 11) ∧ Z8 = (I 12) ∧ R8 = (I 13) ∧ L8 = (I 14) ∧ W8 = (I 15) ∧ T8 = (I 16) ∧ O8 = (I 17) ∧ U8 = (I 18) ∧ n8 = I 6 (4 : Int) ∧ a8 = I 88 (0 : Int))) ∧ r2 = (some (xi (if (fra (I 2) (I 1 (6 : Int)) 41 0 0 (fun _ => 0)).1 = 0 then (fra (I 2) (I 1 (6 : Int)) 41 0 0 (fun _ => 0)).2 3 else -2 - (fra (I 2) (I 1 (6 : Int)) 41 0 0 (fun _ => 0)).1))) ∧ I2 = (xsc (xsc (xsc (xsc (xsc (xsc (xsc (xsc (xsc (xsc (xsc (xsc (xsc (xsc (xsc (xsc (xsc (xsc (xsc (xsc (xsc I 1 T9) 3 Pc9) 4 Pl9) 5 Nm9) 6 (xup (I 6) (4 : Int) n8)) 10 F8) 11 K8) 12 Z8) 13 R8) 14 L8) 15 W8) 16 T8) 17 O8) 18 U8) 25 F9) 26 K9) 27 Z9) 28 R9) 29 L9) 30 W9) 88 (xup (I 88) (0 : Int) a8)) ∧ L2 = L ∧ G2 = (gG D)) := by
  intro d hd
  have hT := h
  refine w_115_fe (by omega) ?_
  refine ⟨hT, fun t9 pc pl nm f9 k9 z9 r9 l9 w9 hp => ?_⟩
  obtain ⟨p1, p2⟩ := hp
  refine ⟨fun w0 => ?_, fun w0 => ?_⟩
  · obtain ⟨x1, x2, x3, x4⟩ := p2 w0
    refine ⟨Or.inr x1, ?_⟩
    rw [if_pos w0]
    refine ⟨xup t9 6 0, pc, pl, nm, f9, k9, z9, r9, l9, w9, xup (xup (xup (xup (xup (I 10) 0 (f9 0)) 1 (f9 1)) 2 (f9 2)) 3 (f9 3)) 4 (f9 4), xcp k9 (I 11) 0 0 10, xcp z9 (I 12) 0 0 10, xcp r9 (I 13) 0 0 5, xcp l9 (I 14) 0 0 20, xcp w9 (I 15) 0 0 50, xup (xup (I 16) 1 (f9 1)) 2 0, xfl (I 17) (-1) 10, xcp (xcp r9 (I 13) 0 0 5) (I 18) 0 0 5, 0, 0, ⟨rfl, fun _ => ⟨x2.1, rfl, rfl, fun R P0 hZ h0 hA => R2_feast (FRR_ag hA x3 x2) (RDI_ag hA x3) hZ h0 x1 x4⟩, fun r => absurd w0 r⟩, by rw [x2.1], ?_, rfl, rfl⟩
    rfl
  · rw [if_neg w0, p1]
    refine ⟨xup t9 6 0, pc, pl, nm, f9, k9, z9, r9, l9, w9, I 10, I 11, I 12, I 13, I 14, I 15, I 16, I 17, I 18, I 6 4, I 88 0, ⟨rfl, fun r => absurd r w0, fun _ => ⟨rfl, rfl, rfl, rfl, rfl, rfl, rfl, rfl, rfl, rfl, rfl⟩⟩, rfl, ?_, rfl, rfl⟩
    (funext i; by_cases h1 : i = 1; (subst h1; first | rfl | exact (xcp_zero _ _ _ _).symm | exact (xup_self _ _).symm | exact (xup_self2 _ _ _).symm | exact (xup_self3 _ _ _ _).symm | exact xup_self _ _); by_cases h3 : i = 3; (subst h3; first | rfl | exact (xcp_zero _ _ _ _).symm | exact (xup_self _ _).symm | exact (xup_self2 _ _ _).symm | exact (xup_self3 _ _ _ _).symm | exact xup_self _ _); by_cases h4 : i = 4; (subst h4; first | rfl | exact (xcp_zero _ _ _ _).symm | exact (xup_self _ _).symm | exact (xup_self2 _ _ _).symm | exact (xup_self3 _ _ _ _).symm | exact xup_self _ _); by_cases h5 : i = 5; (subst h5; first | rfl | exact (xcp_zero _ _ _ _).symm | exact (xup_self _ _).symm | exact (xup_self2 _ _ _).symm | exact (xup_self3 _ _ _ _).symm | exact xup_self _ _); by_cases h6 : i = 6; (subst h6; first | rfl | exact (xcp_zero _ _ _ _).symm | exact (xup_self _ _).symm | exact (xup_self2 _ _ _).symm | exact (xup_self3 _ _ _ _).symm | exact xup_self _ _); by_cases h10 : i = 10; (subst h10; first | rfl | exact (xcp_zero _ _ _ _).symm | exact (xup_self _ _).symm | exact (xup_self2 _ _ _).symm | exact (xup_self3 _ _ _ _).symm | exact xup_self _ _); by_cases h11 : i = 11; (subst h11; first | rfl | exact (xcp_zero _ _ _ _).symm | exact (xup_self _ _).symm | exact (xup_self2 _ _ _).symm | exact (xup_self3 _ _ _ _).symm | exact xup_self _ _); by_cases h12 : i = 12; (subst h12; first | rfl | exact (xcp_zero _ _ _ _).symm | exact (xup_self _ _).symm | exact (xup_self2 _ _ _).symm | exact (xup_self3 _ _ _ _).symm | exact xup_self _ _); by_cases h13 : i = 13; (subst h13; first | rfl | exact (xcp_zero _ _ _ _).symm | exact (xup_self _ _).symm | exact (xup_self2 _ _ _).symm | exact (xup_self3 _ _ _ _).symm | exact xup_self _ _); by_cases h14 : i = 14; (subst h14; first | rfl | exact (xcp_zero _ _ _ _).symm | exact (xup_self _ _).symm | exact (xup_self2 _ _ _).symm | exact (xup_self3 _ _ _ _).symm | exact xup_self _ _); by_cases h15 : i = 15; (subst h15; first | rfl | exact (xcp_zero _ _ _ _).symm | exact (xup_self _ _).symm | exact (xup_self2 _ _ _).symm | exact (xup_self3 _ _ _ _).symm | exact xup_self _ _); by_cases h16 : i = 16; (subst h16; first | rfl | exact (xcp_zero _ _ _ _).symm | exact (xup_self _ _).symm | exact (xup_self2 _ _ _).symm | exact (xup_self3 _ _ _ _).symm | exact xup_self _ _); by_cases h17 : i = 17; (subst h17; first | rfl | exact (xcp_zero _ _ _ _).symm | exact (xup_self _ _).symm | exact (xup_self2 _ _ _).symm | exact (xup_self3 _ _ _ _).symm | exact xup_self _ _); by_cases h18 : i = 18; (subst h18; first | rfl | exact (xcp_zero _ _ _ _).symm | exact (xup_self _ _).symm | exact (xup_self2 _ _ _).symm | exact (xup_self3 _ _ _ _).symm | exact xup_self _ _); by_cases h25 : i = 25; (subst h25; first | rfl | exact (xcp_zero _ _ _ _).symm | exact (xup_self _ _).symm | exact (xup_self2 _ _ _).symm | exact (xup_self3 _ _ _ _).symm | exact xup_self _ _); by_cases h26 : i = 26; (subst h26; first | rfl | exact (xcp_zero _ _ _ _).symm | exact (xup_self _ _).symm | exact (xup_self2 _ _ _).symm | exact (xup_self3 _ _ _ _).symm | exact xup_self _ _); by_cases h27 : i = 27; (subst h27; first | rfl | exact (xcp_zero _ _ _ _).symm | exact (xup_self _ _).symm | exact (xup_self2 _ _ _).symm | exact (xup_self3 _ _ _ _).symm | exact xup_self _ _); by_cases h28 : i = 28; (subst h28; first | rfl | exact (xcp_zero _ _ _ _).symm | exact (xup_self _ _).symm | exact (xup_self2 _ _ _).symm | exact (xup_self3 _ _ _ _).symm | exact xup_self _ _); by_cases h29 : i = 29; (subst h29; first | rfl | exact (xcp_zero _ _ _ _).symm | exact (xup_self _ _).symm | exact (xup_self2 _ _ _).symm | exact (xup_self3 _ _ _ _).symm | exact xup_self _ _); by_cases h30 : i = 30; (subst h30; first | rfl | exact (xcp_zero _ _ _ _).symm | exact (xup_self _ _).symm | exact (xup_self2 _ _ _).symm | exact (xup_self3 _ _ _ _).symm | exact xup_self _ _); by_cases h88 : i = 88; (subst h88; first | rfl | exact (xcp_zero _ _ _ _).symm | exact (xup_self _ _).symm | exact (xup_self2 _ _ _).symm | exact (xup_self3 _ _ _ _).symm | exact xup_self _ _); first | rfl | simp only [xsc_ne _ _ h1, xsc_ne _ _ h3, xsc_ne _ _ h4, xsc_ne _ _ h5, xsc_ne _ _ h6, xsc_ne _ _ h10, xsc_ne _ _ h11, xsc_ne _ _ h12, xsc_ne _ _ h13, xsc_ne _ _ h14, xsc_ne _ _ h15, xsc_ne _ _ h16, xsc_ne _ _ h17, xsc_ne _ _ h18, xsc_ne _ _ h25, xsc_ne _ _ h26, xsc_ne _ _ h27, xsc_ne _ _ h28, xsc_ne _ _ h29, xsc_ne _ _ h30, xsc_ne _ _ h88])
