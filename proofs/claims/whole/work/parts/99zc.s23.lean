/-! a rule as the class keeps it -/
def KCD (C s : Int → Int) : List (List Int × List Int) → Int → Int → Int → Prop
  | [], _, o, z => o = z
  | (S, E) :: M, i, o, z => ∃ cS cE : List Int, CR S cS ∧ CE2 E cE ∧ s (2 * i) = o ∧ s (2 * i + 1) = o + (cS.length : Int) ∧ s (2 * i + 2) = o + (cS.length : Int) + (cE.length : Int) ∧ rdl C o (cS ++ cE) ∧ KCD C s M (i + 1) (o + (cS.length : Int) + (cE.length : Int)) z
theorem KCD.le {C s : Int → Int} : ∀ (M : List (List Int × List Int)) (i o z : Int), KCD C s M i o z → o ≤ z := by
  intro M
  induction M with
  | nil => intro i o z h; have h2 : o = z := h; omega
  | cons x M ih =>
    intro i o z h
    obtain ⟨S, E⟩ := x
    obtain ⟨cS, cE, -, -, -, -, -, -, h⟩ := h
    have := ih _ _ _ h
    omega
theorem KCD.fr {C s C2 s2 : Int → Int} : ∀ (M : List (List Int × List Int)) (i o z : Int), KCD C s M i o z → (∀ j, o ≤ j → j < z → C2 j = C j) → (∀ j, 2 * i ≤ j → j < 2 * (i + (M.length : Int)) → s2 j = s j) → (M ≠ [] → s2 (2 * (i + (M.length : Int))) = z) → KCD C2 s2 M i o z := by
  intro M
  induction M with
  | nil => intro i o z h _ _ _; exact h
  | cons x M ih =>
    intro i o z h hC hs hz
    obtain ⟨S, E⟩ := x
    obtain ⟨cS, cE, h1, h2, h3, h4, h5, h6, h7⟩ := h
    have hle := KCD.le M _ _ _ h7
    rw [List.length_cons] at hs hz
    have hz2 := hz (fun r => by cases r)
    refine ⟨cS, cE, h1, h2, ?_, ?_, ?_, rdl_fr _ _ h6 (fun j j0 j1 => hC j (by omega) (by rw [List.length_append] at j1; omega)), ih _ _ _ h7 (fun j j0 j1 => hC j (by omega) (by omega)) (fun j j0 j1 => hs j (by omega) (by omega)) (fun _ => ?_)⟩
    · rw [hs _ (by omega) (by omega)]; exact h3
    · rw [hs _ (by omega) (by omega)]; exact h4
    · by_cases c : M = []
      · subst c
        have e : o + (cS.length : Int) + (cE.length : Int) = z := h7
        rw [e, ← hz2]
        show s2 (2 * i + 2) = s2 (2 * (i + ((0 + 1 : Nat) : Int)))
        congr 1
        omega
      · have : 0 < M.length := List.length_pos_iff.mpr c
        rw [hs _ (by omega) (by omega)]; exact h5
    · rw [show i + 1 + (M.length : Int) = i + ((M.length + 1 : Nat) : Int) by omega]; exact hz2
theorem KCD.snoc {C s : Int → Int} {S E cS cE : List Int} (hS : CR S cS) (hE : CE2 E cE) : ∀ (M : List (List Int × List Int)) (i o z : Int), KCD C s M i o z → s (2 * (i + (M.length : Int))) = z → s (2 * (i + (M.length : Int)) + 1) = z + (cS.length : Int) → s (2 * (i + (M.length : Int)) + 2) = z + (cS.length : Int) + (cE.length : Int) → rdl C z (cS ++ cE) → KCD C s (M ++ [(S, E)]) i o (z + (cS.length : Int) + (cE.length : Int)) := by
  intro M
  induction M with
  | nil =>
    intro i o z h h1 h2 h3 hr
    have e : o = z := h
    subst e
    have e2 : i + ((([] : List (List Int × List Int)).length : Nat) : Int) = i := by show i + ((0 : Nat) : Int) = i; omega
    rw [e2] at h1 h2 h3
    exact ⟨cS, cE, hS, hE, h1, h2, h3, hr, rfl⟩
  | cons x M ih =>
    intro i o z h h1 h2 h3 hr
    obtain ⟨S1, E1⟩ := x
    obtain ⟨c1, c2, a1, a2, a3, a4, a5, a6, a7⟩ := h
    rw [List.length_cons] at h1 h2 h3
    have e2 : i + ((M.length + 1 : Nat) : Int) = i + 1 + (M.length : Int) := by omega
    rw [e2] at h1 h2 h3
    exact ⟨c1, c2, a1, a2, a3, a4, a5, a6, ih _ _ _ a7 h1 h2 h3 hr⟩
section
variable {b Pc Pl Nm X1 X2 X3 U1 U2 C1 C2 s1 s2 : Int → Int} {cS cE eS eE : List Int} {M : List (List Int × List Int)} {n i0 : Int}
def RDJ (b Pc Pl Nm : Int → Int) (n : Int) (X1 U1 C1 s1 : Int → Int) (i0 : Int) (M : List (List Int × List Int)) : Prop := CK b Pc Pl Nm X1 U1 ∧ X1 6 = n ∧ (M.length : Int) = i0 ∧ i0 ≤ 12 ∧ KCD C1 s1 M 0 0 (U1 3) ∧ Q b n s00 (8, -1, -1, 0, 0, X1 9, U1 4, [], [], [], M) ∧ RB s1
def RDF (b : Int → Int) (n : Int) (X s : Int → Int) : Prop := RB s ∧ X 6 = n ∧ ¬ X 10 = 0 ∧ (0 ≤ X 10 ∧ X 10 ≤ 10000) ∧ Q b n s00 (sX (X 10))
def RDS (b : Int → Int) (n : Int) (X U C s : Int → Int) (i0 : Int) (M : List (List Int × List Int)) : Prop := X 6 = n ∧ (0 ≤ i0 ∧ i0 < 12) ∧ (M.length : Int) = i0 + 1 ∧ (0 ≤ U 3 ∧ U 3 ≤ 400) ∧ KCD C s M 0 0 (U 3) ∧ Q b n s00 (sY M) ∧ RB s
theorem RDJ.f12 (h : RDJ b Pc Pl Nm n X1 U1 C1 s1 i0 M) (h12 : 12 ≤ i0) (v : Int) (hv : (X1 7 = 273 ∧ v = 4) ∨ (¬ X1 7 = 273 ∧ v = 0)) : RDF b n (xup X1 10 (1 + 8 * X1 9 + v)) s1 := by
  obtain ⟨h1, h2, h3, h4, h5, h6, hB⟩ := h
  have hh := h1.hd
  have hT1 := hh.1.1
  refine ⟨hB, h2, by show ¬ (1 + 8 * X1 9 + v = 0); omega, ⟨by show 0 ≤ 1 + 8 * X1 9 + v; omega, by show 1 + 8 * X1 9 + v ≤ 10000; omega⟩, h6.tr ?_⟩
  show Q b n _ (sX (1 + 8 * X1 9 + v))
  rw [← h2]
  rcases hv with ⟨c, rfl⟩ | ⟨c, rfl⟩
  · have hw : tw b (X1 6) (X1 9) = 13 := (tkk_w (i := 13) hh.1 hh.2.1.1 (by omega) (by omega)).mp (hh.2.2.2.symm.trans c)
    have := q8m (b := b) (n := X1 6) (lo := -1) (ti := -1) (cx := 0) (sg := 0) (p := X1 9) (k := U1 4) (O := []) (E := []) (S := []) (M := M) (by rw [hh.2.2.1]; exact hw) (by omega)
    rw [hh.2.2.1] at this
    exact this
  · have hw : ¬ tw b (X1 6) (sk b (X1 6) (X1 9)) = 13 := fun r => c (hh.2.2.2.trans ((tkk_w (i := 13) hh.1 hh.2.1.1 (by omega) (by omega)).mpr (by rw [hh.2.2.1] at r; exact r)))
    have := q8f (b := b) (n := X1 6) (lo := -1) (ti := -1) (cx := 0) (sg := 0) (p := X1 9) (k := U1 4) (O := []) (E := []) (S := []) (M := M) hw
    rw [hh.2.2.1] at this
    exact this
theorem RDJ.ff (h : RDJ b Pc Pl Nm n X1 U1 C1 s1 i0 M) (h12 : i0 < 12) (hc : CLC (2 * i0) b Pc Pl Nm X1 X2 U1 U2 C1 C2 s1 s2 cS cE eS eE) (h0 : ¬ X2 10 = 0) : RDF b n X2 s2 := by
  obtain ⟨h1, h2, h3, h4, h5, h6, hB⟩ := h
  refine ⟨hc.2.2.1 hB, hc.1.trans h2, h0, hc.2.1, h6.tr ?_⟩
  rw [← h2]
  exact hc.2.2.2.2 h0 M (by omega)
theorem RDJ.cl (h : RDJ b Pc Pl Nm n X1 U1 C1 s1 i0 M) (h12 : i0 < 12) (hc : CLC (2 * i0) b Pc Pl Nm X1 X2 U1 U2 C1 C2 s1 s2 cS cE eS eE) (h0 : X2 10 = 0) : CK b Pc Pl Nm X2 U2 ∧ X2 6 = n ∧ KCD C2 s2 (M ++ [(eS, eE)]) 0 0 (U2 3) ∧ ((M ++ [(eS, eE)]).length : Int) = i0 + 1 ∧ Q b n s00 (6, -1, -1, 0, 0, X2 9, U2 4, [], [], [], M ++ [(eS, eE)]) ∧ (0 ≤ X2 9 ∧ X2 9 ≤ n) ∧ TPO b n ∧ sk b n (X2 9) = X2 9 ∧ X2 7 = tkk b n (X2 9) ∧ RB s2 := by
  obtain ⟨h1, h2, h3, h4, h5, h6, hB⟩ := h
  obtain ⟨c1, c2, c3, c4, c5, c6⟩ := hc.2.2.2.1 h0
  have hh := c1.1.hd
  have e6 : X2 6 = n := hc.1.trans h2
  obtain ⟨k1, k2, k3, k4, k5, k6, k7⟩ := c1
  rw [e6] at hh
  have hl : ((cS ++ cE).length : Int) = (cS.length : Int) + (cE.length : Int) := by rw [List.length_append]; omega
  have hk : KCD C2 s2 M 0 0 (U1 3) := KCD.fr M 0 0 _ h5 (fun j j0 j1 => by rw [k6, wrl_out (by omega)]) (fun j j0 j1 => by rw [c5, xup_ne _ _ (by omega), xup_ne _ _ (by omega), xup_ne _ _ (by omega)]) (fun _ => by rw [Int.zero_add, h3, c5, xup_ne _ _ (by omega), xup_ne _ _ (by omega), xup_same])
  refine ⟨k1, e6, ?_, by rw [List.length_append]; show ((M.length + 1 : Nat) : Int) = i0 + 1; omega, h6.tr (by rw [← h2]; exact c6 M (by omega)), hh.2.1, hh.1, hh.2.2.1, hh.2.2.2, hc.2.2.1 hB⟩
  have hs := KCD.snoc c3 c4 M 0 0 _ hk (by rw [Int.zero_add, h3, c5, xup_ne _ _ (by omega), xup_ne _ _ (by omega), xup_same]) (by rw [Int.zero_add, h3, c5, xup_ne _ _ (by omega), xup_same]) (by rw [Int.zero_add, h3, c5, xup_same]) (by rw [k6]; exact rdl_wrl (g := C1) _ _ _)
  rw [k7, hl, ← Int.add_assoc]
  exact hs
theorem RDJ.nx (h : RDJ b Pc Pl Nm n X1 U1 C1 s1 i0 M) (h12 : i0 < 12) (hc : CLC (2 * i0) b Pc Pl Nm X1 X2 U1 U2 C1 C2 s1 s2 cS cE eS eE) (h0 : X2 10 = 0) (h59 : X2 7 = 59) (hn : NX b Pc Pl Nm X2 X3) : RDJ b Pc Pl Nm n X3 U2 C2 s2 (i0 + 1) (M ++ [(eS, eE)]) := by
  obtain ⟨c1, c2, c3, c4, c5, c6, c7, c8, c9, cB⟩ := h.cl h12 hc h0
  have ht : tc b n (X2 9) = 59 := (tkk_sg c7 c6.1 (by omega)).mp (c9.symm.trans h59)
  have hlt := tc_lt ht
  have hnx := nxt_sg (b := b) (n := n) (q := X2 9) (c := 59) c7 c6.1 (by omega) ht
  have hp := (CPG.rf (C := C2) c1).nx hn
  have n2 := hn.2.1
  rw [c2, hnx] at n2
  have n6 := hn.2.2.2.2.2
  refine ⟨hp.1, n6.trans c2, c4, by omega, c3, c5.tr ?_, cB⟩
  have := q6s (b := b) (n := n) (lo := -1) (ti := -1) (cx := 0) (sg := 0) (p := X2 9) (k := U2 4) (O := []) (E := []) (S := []) (M := M ++ [(eS, eE)]) (by rw [c8]; exact ht)
  rw [c8] at this
  rw [n2]
  exact this.tr (q8s (by omega))
theorem RDJ.dn (h : RDJ b Pc Pl Nm n X1 U1 C1 s1 i0 M) (h12 : i0 < 12) (hc : CLC (2 * i0) b Pc Pl Nm X1 X2 U1 U2 C1 C2 s1 s2 cS cE eS eE) (h0 : X2 10 = 0) (h1 : X2 7 = -1) : RDS b n X2 U2 C2 s2 i0 (M ++ [(eS, eE)]) := by
  obtain ⟨c1, c2, c3, c4, c5, c6, c7, c8, c9, cB⟩ := h.cl h12 hc h0
  have ht : tc b n (X2 9) = -1 := (tkk_sg c7 c6.1 (by omega)).mp (c9.symm.trans h1)
  have hu := c1.2.2.2
  have hT1 := c7.1
  have h3 := h.2.2.1
  exact ⟨c2, by omega, c4, by omega, c3, c5.tr (q6d (by rw [c8]; exact ht)), cB⟩
theorem RDJ.er (h : RDJ b Pc Pl Nm n X1 U1 C1 s1 i0 M) (h12 : i0 < 12) (hc : CLC (2 * i0) b Pc Pl Nm X1 X2 U1 U2 C1 C2 s1 s2 cS cE eS eE) (h0 : X2 10 = 0) (h59 : ¬ X2 7 = 59) (h1 : ¬ X2 7 = -1) : RDF b n (xup X2 10 (1 + 8 * X2 9 + 0)) s2 := by
  obtain ⟨c1, c2, c3, c4, c5, c6, c7, c8, c9, cB⟩ := h.cl h12 hc h0
  have hT1 := c7.1
  have ht : ¬ tc b n (X2 9) = 59 := fun r => h59 (c9.trans ((tkk_sg c7 c6.1 (by omega)).mpr r))
  have ht1 : ¬ tc b n (X2 9) = -1 := fun r => h1 (c9.trans ((tkk_sg c7 c6.1 (by omega)).mpr r))
  refine ⟨cB, c2, by show ¬ (1 + 8 * X2 9 + 0 = 0); omega, ⟨by show 0 ≤ 1 + 8 * X2 9 + 0; omega, by show 1 + 8 * X2 9 + 0 ≤ 10000; omega⟩, c5.tr ?_⟩
  have := q6f (b := b) (n := n) (lo := -1) (ti := -1) (cx := 0) (sg := 0) (p := X2 9) (k := U2 4) (O := []) (E := []) (S := []) (M := M ++ [(eS, eE)]) (by rw [c8]; exact ht) (by rw [c8]; exact ht1)
  rw [c8] at this
  exact this
end
set_option maxRecDepth 8000 in
theorem sg_42_0 {d : Nat} {I : XI} {L : XL} {D : GD} {post : XQ}   (h : xR d 42 es_42 8 [xr (some 31), xt 0] [xr (some 1)] (xwr (xwr I 31 (3 : Int) (0 : Int)) 31 (4 : Int) (0 : Int)) L (gG D) 3 802 post) : xR d 42 es_42 0 [xr (some 31), xt 0] [] I L (gG D) 3 802 post := xW_R (fun k => Nat.beq k 8 || Nat.beq k 11 || Nat.beq k 18 || Nat.beq k 27 || Nat.beq k 33 || Nat.beq k 41 || Nat.beq k 42 || Nat.beq k 52 || Nat.beq k 58 || Nat.beq k 71) 8 _ _ _ _ _ _ _ _ _ _ _ _ h
set_option maxRecDepth 8000 in
theorem sg_42_9 {d : Nat} {I : XI} {L : XL} {D : GD} {post : XQ}   (h : xR d 42 es_42 11 [xr (some 31), xi (0 : Int)] [] I L (gG D) 3 802 post) : xR d 42 es_42 9 [xr (some 31), xt 0] [] I L (gG D) 3 802 post := xW_R (fun k => Nat.beq k 8 || Nat.beq k 11 || Nat.beq k 18 || Nat.beq k 27 || Nat.beq k 33 || Nat.beq k 41 || Nat.beq k 42 || Nat.beq k 52 || Nat.beq k 58 || Nat.beq k 71) 2 _ _ _ _ _ _ _ _ _ _ _ _ h
set_option maxRecDepth 8000 in
theorem w_42 {d : Nat} {I : XI} {L : XL} {D : GD} {post : XQ}    (hd : 13 ≤ d) (h : (TPO (I 2) (I 1 (6 : Int)) ∧ (∀ (e5464 : Int) (e5465 : Int → Int) (e5466 : Int → Int) (e5467 : Int → Int), (TXT (xup (xup (xup (xup (xup (xup (I 1) (4 : Int) e5464) (5 : Int) 0) (7 : Int) (tkk (I 2) (I 1 (6 : Int)) (sk (I 2) (I 1 (6 : Int)) 0))) (8 : Int) (tkv (I 2) (I 1 (6 : Int)) (sk (I 2) (I 1 (6 : Int)) 0))) (9 : Int) (sk (I 2) (I 1 (6 : Int)) 0)) (10 : Int) 0) (I 2) e5465 e5466 e5467 → xR d 42 es_42 11 [xr (some 31), xi (0 : Int)] [] (xsc (xsc (xsc (xsc (xsc I 1 (xup (xup (xup (xup (xup (xup (I 1) (4 : Int) e5464) (5 : Int) 0) (7 : Int) (tkk (I 2) (I 1 (6 : Int)) (sk (I 2) (I 1 (6 : Int)) 0))) (8 : Int) (tkv (I 2) (I 1 (6 : Int)) (sk (I 2) (I 1 (6 : Int)) 0))) (9 : Int) (sk (I 2) (I 1 (6 : Int)) 0)) (10 : Int) 0)) 3 e5465) 4 e5466) 5 e5467) 31 (xup (xup (I 31) (3 : Int) (0 : Int)) (4 : Int) (0 : Int))) L (gG D) 3 802 post)))) : xR d 42 es_42 0 [xr (some 31), xt 0] [] I L (gG D) 3 802 post := sg_42_0  ((xR_cQ rfl rfl rfl (c_93 h.1) (by omega) (fun _ _ _ _ hx5468 => by obtain ⟨e5464, e5465, e5466, e5467, hp5469, rfl, rfl, rfl, rfl⟩ := hx5468; exact (sg_42_9  (xR_memc (h.2 e5464 e5465 e5466 e5467 hp5469) (funext fun i => (xpt rfl (fun h31_ => (xpt rfl (fun h5_ => (xpt rfl (fun h4_ => (xpt rfl (fun h3_ => (xpt rfl (fun h1_ => (by simp only [xsc_ne _ _ h1_, xwr_ne _ _ _ h1_, xsc_ne _ _ h3_, xwr_ne _ _ _ h3_, xsc_ne _ _ h4_, xwr_ne _ _ _ h4_, xsc_ne _ _ h5_, xwr_ne _ _ _ h5_, xsc_ne _ _ h31_, xwr_ne _ _ _ h31_])))))))))))) rfl)))))
set_option maxRecDepth 8000 in
theorem sg_42_11 {d : Nat} {I : XI} {L : XL} {D : GD} {post : XQ}  {u1 : Int} (h : (((-2147483648 ≤ u1 ∧ u1 ≤ 2147483647) ∧ (-2147483648 ≤ (12 : Int) ∧ (12 : Int) ≤ 2147483647)) ∧ (((12 : Int) ≤ u1 → (((-2147483648 ≤ (I 1 (7 : Int)) ∧ (I 1 (7 : Int)) ≤ 2147483647) ∧ (-2147483648 ≤ (273 : Int) ∧ (273 : Int) ≤ 2147483647)) ∧ ((¬ (I 1 (7 : Int)) = (273 : Int) → xR d 42 es_42 71 [xr (some 31), xi u1] [xi (0 : Int), xr (some 1)] I L (gG D) 3 802 post) ∧ ((I 1 (7 : Int)) = (273 : Int) → xR d 42 es_42 71 [xr (some 31), xi u1] [xi (4 : Int), xr (some 1)] I L (gG D) 3 802 post)))) ∧ (u1 < (12 : Int) → xR d 42 es_42 18 [xr (some 31), xi u1] [xi ((2 : Int) * u1), xr (some 31)] I L (gG D) 3 802 post)))) : xR d 42 es_42 11 [xr (some 31), xi u1] [] I L (gG D) 3 802 post := xW_R (fun k => Nat.beq k 8 || Nat.beq k 11 || Nat.beq k 18 || Nat.beq k 27 || Nat.beq k 33 || Nat.beq k 41 || Nat.beq k 42 || Nat.beq k 52 || Nat.beq k 58 || Nat.beq k 71) 12 _ _ _ _ _ _ _ _ _ _ _ _ h
set_option maxRecDepth 8000 in
theorem sg_42_72 {d : Nat} {I : XI} {L : XL} {D : GD} {post : XQ}  {u1 : Int} {w0 : Int} (h : post (some (xr none)) I L (gG D)) : xR d 42 es_42 72 [xr (some 31), xi u1] [xi w0] I L (gG D) 3 802 post := xW_R (fun k => Nat.beq k 8 || Nat.beq k 11 || Nat.beq k 18 || Nat.beq k 27 || Nat.beq k 33 || Nat.beq k 41 || Nat.beq k 42 || Nat.beq k 52 || Nat.beq k 58 || Nat.beq k 71) 3 _ _ _ _ _ _ _ _ _ _ _ _ h
set_option maxRecDepth 8000 in
theorem sg_42_19 {d : Nat} {I : XI} {L : XL} {D : GD} {post : XQ}  {u1 : Int} {w0 : Int} (h : ((-2147483648 ≤ w0 ∧ w0 ≤ 2147483647) ∧ ((¬ w0 = 0 → (((-2147483648 ≤ (I 1 (7 : Int)) ∧ (I 1 (7 : Int)) ≤ 2147483647) ∧ (-2147483648 ≤ (-1 : Int) ∧ (-1 : Int) ≤ 2147483647)) ∧ ((¬ (I 1 (7 : Int)) = (-1 : Int) → (((-2147483648 ≤ (I 1 (7 : Int)) ∧ (I 1 (7 : Int)) ≤ 2147483647) ∧ (-2147483648 ≤ (59 : Int) ∧ (59 : Int) ≤ 2147483647)) ∧ (((I 1 (7 : Int)) = (59 : Int) → xR d 42 es_42 58 [xr (some 31), xi u1] [xr (some 1)] I L (gG D) 3 802 post) ∧ (¬ (I 1 (7 : Int)) = (59 : Int) → xR d 42 es_42 52 [xr (some 31), xi u1] [xi (0 : Int), xr (some 1)] I L (gG D) 3 802 post)))) ∧ ((I 1 (7 : Int)) = (-1 : Int) → xR d 42 es_42 27 [xr (some 31), xi u1] [] I L (gG D) 3 802 post)))) ∧ (w0 = 0 → post (some (xr none)) I L (gG D))))) : xR d 42 es_42 19 [xr (some 31), xi u1] [xi w0] I L (gG D) 3 802 post := xW_R (fun k => Nat.beq k 8 || Nat.beq k 11 || Nat.beq k 18 || Nat.beq k 27 || Nat.beq k 33 || Nat.beq k 41 || Nat.beq k 42 || Nat.beq k 52 || Nat.beq k 58 || Nat.beq k 71) 14 _ _ _ _ _ _ _ _ _ _ _ _ h
set_option maxRecDepth 8000 in
theorem sg_42_59 {d : Nat} {I : XI} {L : XL} {D : GD} {post : XQ}  {u1 : Int} (h : xR d 42 es_42 11 [xr (some 31), xi (u1 + (1 : Int))] [] I L (gG D) 3 802 post) : xR d 42 es_42 59 [xr (some 31), xi u1] [] I L (gG D) 3 802 post := xW_R (fun k => Nat.beq k 8 || Nat.beq k 11 || Nat.beq k 18 || Nat.beq k 27 || Nat.beq k 33 || Nat.beq k 41 || Nat.beq k 42 || Nat.beq k 52 || Nat.beq k 58 || Nat.beq k 71) 2 _ _ _ _ _ _ _ _ _ _ _ _ h
set_option maxRecDepth 8000 in
theorem sg_42_53 {d : Nat} {I : XI} {L : XL} {D : GD} {post : XQ}  {u1 : Int} {w0 : Int} (h : post (some (xr none)) I L (gG D)) : xR d 42 es_42 53 [xr (some 31), xi u1] [xi w0] I L (gG D) 3 802 post := xW_R (fun k => Nat.beq k 8 || Nat.beq k 11 || Nat.beq k 18 || Nat.beq k 27 || Nat.beq k 33 || Nat.beq k 41 || Nat.beq k 42 || Nat.beq k 52 || Nat.beq k 58 || Nat.beq k 71) 3 _ _ _ _ _ _ _ _ _ _ _ _ h
set_option maxRecDepth 8000 in
theorem b_42 {d : Nat} {I : XI} {L : XL} {D : GD} {post : XQ} {X1 U1 C1 s1 : Int → Int}  {i0 : Int} (hd : 65 ≤ d) (h : (((-2147483648 ≤ i0 ∧ i0 ≤ 2147483647)) ∧ (((12 : Int) ≤ i0 → (((-2147483648 ≤ (X1 (7 : Int)) ∧ (X1 (7 : Int)) ≤ 2147483647)) ∧ ((¬ (X1 (7 : Int)) = (273 : Int) → post (some (xr none)) (xsc (xsc (xsc (xsc I 1 (xup X1 (10 : Int) (1 + 8 * X1 (9 : Int) + (0 : Int)))) 31 U1) 32 C1) 33 s1) L (gG D)) ∧ ((X1 (7 : Int)) = (273 : Int) → post (some (xr none)) (xsc (xsc (xsc (xsc I 1 (xup X1 (10 : Int) (1 + 8 * X1 (9 : Int) + (4 : Int)))) 31 U1) 32 C1) 33 s1) L (gG D))))) ∧ (i0 < (12 : Int) → ((CK (I 2) (I 3) (I 4) (I 5) X1 U1 ∧ (0 ≤ ((2 : Int) * i0) ∧ ((2 : Int) * i0) ≤ 22)) ∧ (∀ (e5472 : Int → Int) (e5473 : Int → Int) (e5474 : Int → Int) (e5475 : Int → Int) (e5476 : List Int) (e5477 : List Int) (e5478 : List Int) (e5479 : List Int), (CLC ((2 : Int) * i0) (I 2) (I 3) (I 4) (I 5) X1 e5472 U1 e5473 C1 e5474 s1 e5475 e5476 e5477 e5478 e5479 → (((e5472 10 = 0 → (((-2147483648 ≤ (e5472 (7 : Int)) ∧ (e5472 (7 : Int)) ≤ 2147483647)) ∧ ((¬ (e5472 (7 : Int)) = (-1 : Int) → ((((e5472 (7 : Int)) = (59 : Int) → (TXT e5472 (I 2) (I 3) (I 4) (I 5) ∧ (∀ (e5480 : Int → Int), ((TXT e5480 (I 2) (I 3) (I 4) (I 5) ∧ e5480 9 = (nxt (I 2) (e5472 (6 : Int)) (e5472 (9 : Int))) ∧ e5480 7 = (tkk (I 2) (e5472 (6 : Int)) (nxt (I 2) (e5472 (6 : Int)) (e5472 (9 : Int)))) ∧ e5480 8 = (tkv (I 2) (e5472 (6 : Int)) (nxt (I 2) (e5472 (6 : Int)) (e5472 (9 : Int)))) ∧ e5480 10 = e5472 (10 : Int) ∧ e5480 6 = e5472 (6 : Int)) → xR d 42 es_42 11 [xr (some 31), xi (i0 + (1 : Int))] [] (xsc (xsc (xsc (xsc I 1 e5480) 31 e5473) 32 e5474) 33 e5475) L (gG D) 3 802 post)))) ∧ (¬ (e5472 (7 : Int)) = (59 : Int) → post (some (xr none)) (xsc (xsc (xsc (xsc I 1 (xup e5472 (10 : Int) (1 + 8 * e5472 (9 : Int) + (0 : Int)))) 31 e5473) 32 e5474) 33 e5475) L (gG D))))) ∧ ((e5472 (7 : Int)) = (-1 : Int) → xR d 42 es_42 27 [xr (some 31), xi i0] [] (xsc (xsc (xsc (xsc I 1 e5472) 31 e5473) 32 e5474) 33 e5475) L (gG D) 3 802 post)))) ∧ (¬ (e5472 10 = 0) → post (some (xr none)) (xsc (xsc (xsc (xsc I 1 e5472) 31 e5473) 32 e5474) 33 e5475) L (gG D))))))))))) : xR d 42 es_42 11 [xr (some 31), xi i0] [] (xsc (xsc (xsc (xsc I 1 X1) 31 U1) 32 C1) 33 s1) L (gG D) 3 802 post := sg_42_11  (⟨⟨h.1, (by decide)⟩, ⟨fun q5487 => ⟨⟨(h.2.1 q5487).1, (by decide)⟩, ⟨fun q5470 => (xR_cF rfl rfl rfl c_95 (by omega) (sg_42_72  (xpost ((h.2.1 q5487).2.1 q5470) (funext fun i => (xpt rfl (fun h33_ => (xpt rfl (fun h32_ => (xpt rfl (fun h31_ => (xpt rfl (fun h1_ => (by simp only [xsc_ne _ _ h1_, xwr_ne _ _ _ h1_, xsc_ne _ _ h31_, xwr_ne _ _ _ h31_, xsc_ne _ _ h32_, xwr_ne _ _ _ h32_, xsc_ne _ _ h33_, xwr_ne _ _ _ h33_])))))))))) rfl))), fun q5471 => (xR_cF rfl rfl rfl c_95 (by omega) (sg_42_72  (xpost ((h.2.1 q5487).2.2 q5471) (funext fun i => (xpt rfl (fun h33_ => (xpt rfl (fun h32_ => (xpt rfl (fun h31_ => (xpt rfl (fun h1_ => (by simp only [xsc_ne _ _ h1_, xwr_ne _ _ _ h1_, xsc_ne _ _ h31_, xwr_ne _ _ _ h31_, xsc_ne _ _ h32_, xwr_ne _ _ _ h32_, xsc_ne _ _ h33_, xwr_ne _ _ _ h33_])))))))))) rfl)))⟩⟩, fun q5488 => (xR_cQ rfl rfl rfl (c_43 (h.2.2 q5488).1) (by omega) (fun _ _ _ _ hx5489 => by obtain ⟨e5472, e5473, e5474, e5475, e5476, e5477, e5478, e5479, hp5490, rfl, rfl, rfl, rfl⟩ := hx5489; exact (sg_42_19  ⟨(xb_rg _), ⟨fun q5485 => ⟨⟨(((h.2.2 q5488).2 e5472 e5473 e5474 e5475 e5476 e5477 e5478 e5479 hp5490).1 (xb_n0 q5485)).1, (by decide)⟩, ⟨fun q5483 => ⟨⟨(((h.2.2 q5488).2 e5472 e5473 e5474 e5475 e5476 e5477 e5478 e5479 hp5490).1 (xb_n0 q5485)).1, (by decide)⟩, ⟨fun q5481 => (xR_cQ rfl rfl rfl (c_94_t (((((h.2.2 q5488).2 e5472 e5473 e5474 e5475 e5476 e5477 e5478 e5479 hp5490).1 (xb_n0 q5485)).2.1 q5483).1 q5481).1) (by omega) (fun _ _ _ _ hx5491 => by obtain ⟨e5480, hp5492, rfl, rfl, rfl, rfl⟩ := hx5491; exact (sg_42_59  (xR_memc ((((((h.2.2 q5488).2 e5472 e5473 e5474 e5475 e5476 e5477 e5478 e5479 hp5490).1 (xb_n0 q5485)).2.1 q5483).1 q5481).2 e5480 hp5492) (funext fun i => (xpt rfl (fun h33_ => (xpt rfl (fun h32_ => (xpt rfl (fun h31_ => (xpt rfl (fun h1_ => (by simp only [xsc_ne _ _ h1_, xwr_ne _ _ _ h1_, xsc_ne _ _ h31_, xwr_ne _ _ _ h31_, xsc_ne _ _ h32_, xwr_ne _ _ _ h32_, xsc_ne _ _ h33_, xwr_ne _ _ _ h33_])))))))))) rfl)))), fun q5482 => (xR_cF rfl rfl rfl c_95 (by omega) (sg_42_53  (xpost (((((h.2.2 q5488).2 e5472 e5473 e5474 e5475 e5476 e5477 e5478 e5479 hp5490).1 (xb_n0 q5485)).2.1 q5483).2 q5482) (funext fun i => (xpt rfl (fun h33_ => (xpt rfl (fun h32_ => (xpt rfl (fun h31_ => (xpt rfl (fun h1_ => (by simp only [xsc_ne _ _ h1_, xwr_ne _ _ _ h1_, xsc_ne _ _ h31_, xwr_ne _ _ _ h31_, xsc_ne _ _ h32_, xwr_ne _ _ _ h32_, xsc_ne _ _ h33_, xwr_ne _ _ _ h33_])))))))))) rfl)))⟩⟩, fun q5484 => (xR_memc ((((h.2.2 q5488).2 e5472 e5473 e5474 e5475 e5476 e5477 e5478 e5479 hp5490).1 (xb_n0 q5485)).2.2 q5484) (funext fun i => (xpt rfl (fun h33_ => (xpt rfl (fun h32_ => (xpt rfl (fun h31_ => (xpt rfl (fun h1_ => (by simp only [xsc_ne _ _ h1_, xwr_ne _ _ _ h1_, xsc_ne _ _ h31_, xwr_ne _ _ _ h31_, xsc_ne _ _ h32_, xwr_ne _ _ _ h32_, xsc_ne _ _ h33_, xwr_ne _ _ _ h33_])))))))))) rfl)⟩⟩, fun q5486 => (xpost (((h.2.2 q5488).2 e5472 e5473 e5474 e5475 e5476 e5477 e5478 e5479 hp5490).2 (xb_0 q5486)) (funext fun i => (xpt rfl (fun h33_ => (xpt rfl (fun h32_ => (xpt rfl (fun h31_ => (xpt rfl (fun h1_ => (by simp only [xsc_ne _ _ h1_, xwr_ne _ _ _ h1_, xsc_ne _ _ h31_, xwr_ne _ _ _ h31_, xsc_ne _ _ h32_, xwr_ne _ _ _ h32_, xsc_ne _ _ h33_, xwr_ne _ _ _ h33_])))))))))) rfl)⟩⟩)))⟩⟩)
theorem lp_42 {I : XI} {L : XL} {D : GD} {d : Nat} {post : XQ} {n : Int} (hd : 65 ≤ d) (hpo : ∀ X9 U9 C9 s9 : Int → Int, RDF (I 2) n X9 s9 → post (some (xr none)) (xsc (xsc (xsc (xsc I 1 X9) 31 U9) 32 C9) 33 s9) L (gG D)) (hps : ∀ (X9 U9 C9 s9 : Int → Int) (i0 : Int) (M : List (List Int × List Int)), RDS (I 2) n X9 U9 C9 s9 i0 M → xR d 42 es_42 27 [xr (some 31), xi i0] [] (xsc (xsc (xsc (xsc I 1 X9) 31 U9) 32 C9) 33 s9) L (gG D) 3 802 post) : ∀ (r : Nat) (X1 U1 C1 s1 : Int → Int) (i0 : Int) (M : List (List Int × List Int)), (12 - i0).toNat < r → RDJ (I 2) (I 3) (I 4) (I 5) n X1 U1 C1 s1 i0 M → xR d 42 es_42 11 [xr (some 31), xi i0] [] (xsc (xsc (xsc (xsc I 1 X1) 31 U1) 32 C1) 33 s1) L (gG D) 3 802 post := by
  intro r
  induction r with
  | zero => intro X1 U1 C1 s1 i0 M hr hI; omega
  | succ r ih =>
    intro X1 U1 C1 s1 i0 M hr hI
    have hk := hI.1
    have hh := hk.hd
    have hi := hI.2.2.1
    have hi2 := hI.2.2.2.1
    have hkr := tkk_rg (q := X1 9) hh.1
    rw [← hh.2.2.2] at hkr
    refine b_42 (by omega) ?_
    refine ⟨⟨by omega, by omega⟩, fun g12 => ⟨⟨by omega, by omega⟩, fun n3 => hpo _ _ _ _ (hI.f12 g12 0 (Or.inr ⟨n3, rfl⟩)), fun y3 => hpo _ _ _ _ (hI.f12 g12 4 (Or.inl ⟨y3, rfl⟩))⟩, fun l12 => ⟨⟨hk, ⟨by omega, by omega⟩⟩, fun X2 U2 C2 s2 cS cE eS eE hc => ⟨fun h0 => ?_, fun h0 => hpo _ _ _ _ (hI.ff l12 hc h0)⟩⟩⟩
    have hcl := hI.cl l12 hc h0
    have hkr2 := tkk_rg (q := X2 9) hcl.2.2.2.2.2.2.1
    rw [← hcl.2.2.2.2.2.2.2.2.1] at hkr2
    refine ⟨⟨by omega, by omega⟩, fun n1 => ⟨fun y59 => ⟨hcl.1.1, fun X3 hn => ?_⟩, fun n59 => hpo _ _ _ _ (hI.er l12 hc h0 n59 n1)⟩, fun y1 => hps _ _ _ _ _ _ (hI.dn l12 hc h0 y1)⟩
    exact ih _ _ _ _ _ _ (by omega) (hI.nx l12 hc h0 y59 hn)
