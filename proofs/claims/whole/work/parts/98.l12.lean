/-! the class reads a feast -/
theorem tkk_256 {b : Int → Int} {n p : Int} (hT : TPO b n) (p0 : 0 ≤ p) : tkk b n p = 256 ↔ dgt b n p = true := by
  have htr := tc_rg hT p
  have htw := tw_rg b n p
  unfold tkk
  by_cases pn : p < n
  · rw [if_neg (fun r => r pn)]
    by_cases d : dgt b n p = true
    · rw [if_pos d]; exact ⟨fun _ => d, fun _ => rfl⟩
    · rw [if_neg d]
      refine ⟨fun h => ?_, fun h => absurd h d⟩
      exfalso
      revert h
      (repeat' split) <;> omega
  · rw [if_pos pn]
    exact ⟨fun h => absurd h (by decide), fun h => absurd (dgt_lt p h) pn⟩
theorem tkk_w {b : Int → Int} {n p i : Int} (hT : TPO b n) (p0 : 0 ≤ p) (i0 : 0 ≤ i) (i1 : i ≤ 17) : tkk b n p = 260 + i ↔ tw b n p = i := by
  have htr := tc_rg hT p
  have htw := tw_rg b n p
  have hno : ¬ ltr b n p = true → tw b n p = -1 := by
    intro h
    have ha := le_all (b := b) (n := n) (p := p)
    unfold tw
    refine if_neg (fun r => h (ha.2.1 p (Int.le_refl _) (by omega)))
  unfold tkk
  by_cases pn : p < n
  · rw [if_neg (fun r => r pn)]
    by_cases d : dgt b n p = true
    · rw [if_pos d]
      have h1 := of_decide_eq_true d
      have := hno (fun r => by have := of_decide_eq_true r; omega)
      omega
    · rw [if_neg d]
      by_cases l : ltr b n p = true
      · rw [if_pos l]
        by_cases t : tw b n p = -1
        · rw [if_pos t]; omega
        · rw [if_neg t]; omega
      · rw [if_neg l]
        have := hno l
        constructor
        · intro h
          exfalso
          revert h
          (repeat' split) <;> omega
        · intro h; omega
  · rw [if_pos pn]
    have := hno (fun r => pn (ltr_lt p r))
    omega
theorem nxt_num {b : Int → Int} {n q : Int} (d : dgt b n q = true) : nxt b n q = fqn b n q := by
  have h1 := dgt_lt q d
  unfold nxt fqn tke nxn
  rw [if_neg (fun r => r h1), if_pos d, if_pos d]
theorem nxt_wrd {b : Int → Int} {n q : Int} (h : 0 ≤ tw b n q) : nxt b n q = fq1 b n q := by
  have ha := le_all (b := b) (n := n) (p := q)
  have l : ltr b n q = true := by
    unfold tw at h
    by_cases r : 0 < le_ b n q - q ∧ le_ b n q - q < 8
    · exact ha.2.1 q (Int.le_refl _) (by omega)
    · rw [if_neg r] at h; omega
  have h1 := of_decide_eq_true l
  have d : ¬ dgt b n q = true := fun r => by have := of_decide_eq_true r; omega
  unfold nxt fq1 tke
  rw [if_neg (fun r => r h1.1), if_neg d, if_pos l]
set_option maxRecDepth 8000 in
theorem sg_18_0 {d : Nat} {I : XI} {L : XL} {D : GD} {post : XQ}  {u1 : Int} {u2 : Int} (h : xR d 18 es_18 1 [xr (some 1), xi u1, xi u2] [xr (some 1)] I L (gG D) 0 0 post) : xR d 18 es_18 0 [xr (some 1), xi u1, xi u2] [] I L (gG D) 0 0 post := xW_R (fun k => Nat.beq k 1 || Nat.beq k 8 || Nat.beq k 22) 1 _ _ _ _ _ _ _ _ _ _ _ _ h
set_option maxRecDepth 8000 in
theorem sg_18_2 {d : Nat} {I : XI} {L : XL} {D : GD} {post : XQ}  {u1 : Int} {u2 : Int} (h : (((-2147483648 ≤ (I 1 (7 : Int)) ∧ (I 1 (7 : Int)) ≤ 2147483647) ∧ (-2147483648 ≤ (256 : Int) ∧ (256 : Int) ≤ 2147483647)) ∧ (((I 1 (7 : Int)) = (256 : Int) → (((-2147483648 ≤ (I 1 (8 : Int)) ∧ (I 1 (8 : Int)) ≤ 2147483647) ∧ (-2147483648 ≤ u1 ∧ u1 ≤ 2147483647)) ∧ (((I 1 (8 : Int)) < u1 → xR d 18 es_18 22 [xr (some 1), xi u1, xi u2] [xi (1 : Int), xr (some 1)] I L (gG D) 0 0 post) ∧ (u1 ≤ (I 1 (8 : Int)) → (((-2147483648 ≤ (I 1 (8 : Int)) ∧ (I 1 (8 : Int)) ≤ 2147483647) ∧ (-2147483648 ≤ u2 ∧ u2 ≤ 2147483647)) ∧ (((I 1 (8 : Int)) ≤ u2 → post (some (xi (I 1 (8 : Int)))) I L (gG D)) ∧ (u2 < (I 1 (8 : Int)) → xR d 18 es_18 22 [xr (some 1), xi u1, xi u2] [xi (1 : Int), xr (some 1)] I L (gG D) 0 0 post))))))) ∧ (¬ (I 1 (7 : Int)) = (256 : Int) → xR d 18 es_18 8 [xr (some 1), xi u1, xi u2] [xi (0 : Int), xr (some 1)] I L (gG D) 0 0 post)))) : xR d 18 es_18 2 [xr (some 1), xi u1, xi u2] [] I L (gG D) 0 0 post := xW_R (fun k => Nat.beq k 1 || Nat.beq k 8 || Nat.beq k 22) 15 _ _ _ _ _ _ _ _ _ _ _ _ h
set_option maxRecDepth 8000 in
theorem sg_18_23 {d : Nat} {I : XI} {L : XL} {D : GD} {post : XQ}  {u1 : Int} {u2 : Int} {w0 : Int} (h : post (some (xi (-1 : Int))) I L (gG D)) : xR d 18 es_18 23 [xr (some 1), xi u1, xi u2] [xi w0] I L (gG D) 0 0 post := xW_R (fun k => Nat.beq k 1 || Nat.beq k 8 || Nat.beq k 22) 3 _ _ _ _ _ _ _ _ _ _ _ _ h
set_option maxRecDepth 8000 in
theorem sg_18_9 {d : Nat} {I : XI} {L : XL} {D : GD} {post : XQ}  {u1 : Int} {u2 : Int} {w0 : Int} (h : post (some (xi (-1 : Int))) I L (gG D)) : xR d 18 es_18 9 [xr (some 1), xi u1, xi u2] [xi w0] I L (gG D) 0 0 post := xW_R (fun k => Nat.beq k 1 || Nat.beq k 8 || Nat.beq k 22) 3 _ _ _ _ _ _ _ _ _ _ _ _ h
set_option maxRecDepth 8000 in
theorem w_18 {d : Nat} {I : XI} {L : XL} {D : GD} {post : XQ}   {lo : Int} {hi : Int} (hd : 1 ≤ d) (h : (TXT (I 1) (I 2) (I 3) (I 4) (I 5) ∧ (∀ (e3596 : Int), (TXT (xup (xup (xup (xup (I 1) (5 : Int) e3596) (7 : Int) (tkk (I 2) (I 1 (6 : Int)) (nxt (I 2) (I 1 (6 : Int)) (I 1 (9 : Int))))) (8 : Int) (tkv (I 2) (I 1 (6 : Int)) (nxt (I 2) (I 1 (6 : Int)) (I 1 (9 : Int))))) (9 : Int) (nxt (I 2) (I 1 (6 : Int)) (I 1 (9 : Int)))) (I 2) (I 3) (I 4) (I 5) → (((-2147483648 ≤ (tkk (I 2) (I 1 (6 : Int)) (nxt (I 2) (I 1 (6 : Int)) (I 1 (9 : Int)))) ∧ (tkk (I 2) (I 1 (6 : Int)) (nxt (I 2) (I 1 (6 : Int)) (I 1 (9 : Int)))) ≤ 2147483647)) ∧ (((tkk (I 2) (I 1 (6 : Int)) (nxt (I 2) (I 1 (6 : Int)) (I 1 (9 : Int)))) = (256 : Int) → (((-2147483648 ≤ (tkv (I 2) (I 1 (6 : Int)) (nxt (I 2) (I 1 (6 : Int)) (I 1 (9 : Int)))) ∧ (tkv (I 2) (I 1 (6 : Int)) (nxt (I 2) (I 1 (6 : Int)) (I 1 (9 : Int)))) ≤ 2147483647) ∧ (-2147483648 ≤ lo ∧ lo ≤ 2147483647)) ∧ (((tkv (I 2) (I 1 (6 : Int)) (nxt (I 2) (I 1 (6 : Int)) (I 1 (9 : Int)))) < lo → post (some (xi (-1 : Int))) (xsc I 1 (xup (xup (xup (xup (xup (I 1) (5 : Int) e3596) (7 : Int) (tkk (I 2) (I 1 (6 : Int)) (nxt (I 2) (I 1 (6 : Int)) (I 1 (9 : Int))))) (8 : Int) (tkv (I 2) (I 1 (6 : Int)) (nxt (I 2) (I 1 (6 : Int)) (I 1 (9 : Int))))) (9 : Int) (nxt (I 2) (I 1 (6 : Int)) (I 1 (9 : Int)))) (10 : Int) (1 + 8 * (nxt (I 2) (I 1 (6 : Int)) (I 1 (9 : Int))) + (1 : Int)))) L (gG D)) ∧ (lo ≤ (tkv (I 2) (I 1 (6 : Int)) (nxt (I 2) (I 1 (6 : Int)) (I 1 (9 : Int)))) → (((-2147483648 ≤ hi ∧ hi ≤ 2147483647)) ∧ (((tkv (I 2) (I 1 (6 : Int)) (nxt (I 2) (I 1 (6 : Int)) (I 1 (9 : Int)))) ≤ hi → post (some (xi (tkv (I 2) (I 1 (6 : Int)) (nxt (I 2) (I 1 (6 : Int)) (I 1 (9 : Int)))))) (xsc I 1 (xup (xup (xup (xup (I 1) (5 : Int) e3596) (7 : Int) (tkk (I 2) (I 1 (6 : Int)) (nxt (I 2) (I 1 (6 : Int)) (I 1 (9 : Int))))) (8 : Int) (tkv (I 2) (I 1 (6 : Int)) (nxt (I 2) (I 1 (6 : Int)) (I 1 (9 : Int))))) (9 : Int) (nxt (I 2) (I 1 (6 : Int)) (I 1 (9 : Int))))) L (gG D)) ∧ (hi < (tkv (I 2) (I 1 (6 : Int)) (nxt (I 2) (I 1 (6 : Int)) (I 1 (9 : Int)))) → post (some (xi (-1 : Int))) (xsc I 1 (xup (xup (xup (xup (xup (I 1) (5 : Int) e3596) (7 : Int) (tkk (I 2) (I 1 (6 : Int)) (nxt (I 2) (I 1 (6 : Int)) (I 1 (9 : Int))))) (8 : Int) (tkv (I 2) (I 1 (6 : Int)) (nxt (I 2) (I 1 (6 : Int)) (I 1 (9 : Int))))) (9 : Int) (nxt (I 2) (I 1 (6 : Int)) (I 1 (9 : Int)))) (10 : Int) (1 + 8 * (nxt (I 2) (I 1 (6 : Int)) (I 1 (9 : Int))) + (1 : Int)))) L (gG D)))))))) ∧ (¬ (tkk (I 2) (I 1 (6 : Int)) (nxt (I 2) (I 1 (6 : Int)) (I 1 (9 : Int)))) = (256 : Int) → post (some (xi (-1 : Int))) (xsc I 1 (xup (xup (xup (xup (xup (I 1) (5 : Int) e3596) (7 : Int) (tkk (I 2) (I 1 (6 : Int)) (nxt (I 2) (I 1 (6 : Int)) (I 1 (9 : Int))))) (8 : Int) (tkv (I 2) (I 1 (6 : Int)) (nxt (I 2) (I 1 (6 : Int)) (I 1 (9 : Int))))) (9 : Int) (nxt (I 2) (I 1 (6 : Int)) (I 1 (9 : Int)))) (10 : Int) (1 + 8 * (nxt (I 2) (I 1 (6 : Int)) (I 1 (9 : Int))) + (0 : Int)))) L (gG D)))))))) : xR d 18 es_18 0 [xr (some 1), xi lo, xi hi] [] I L (gG D) 0 0 post := sg_18_0  ((xR_cQ rfl rfl rfl (c_94 h.1) (by omega) (fun _ _ _ _ hx3603 => by obtain ⟨e3596, hp3604, rfl, rfl, rfl, rfl⟩ := hx3603; exact (sg_18_2  ⟨⟨(h.2 e3596 hp3604).1, (by decide)⟩, ⟨fun q3601 => ⟨⟨((h.2 e3596 hp3604).2.1 q3601).1.1, ((h.2 e3596 hp3604).2.1 q3601).1.2⟩, ⟨fun q3599 => (xR_cF rfl rfl rfl c_95 (by omega) (sg_18_23  (xpost (((h.2 e3596 hp3604).2.1 q3601).2.1 q3599) (funext fun i => (xpt rfl (fun h1_ => (by simp only [xsc_ne _ _ h1_, xwr_ne _ _ _ h1_])))) rfl))), fun q3600 => ⟨⟨((h.2 e3596 hp3604).2.1 q3601).1.1, (((h.2 e3596 hp3604).2.1 q3601).2.2 q3600).1⟩, ⟨fun q3597 => (xpost ((((h.2 e3596 hp3604).2.1 q3601).2.2 q3600).2.1 q3597) (funext fun i => (xpt rfl (fun h1_ => (by simp only [xsc_ne _ _ h1_, xwr_ne _ _ _ h1_])))) rfl), fun q3598 => (xR_cF rfl rfl rfl c_95 (by omega) (sg_18_23  (xpost ((((h.2 e3596 hp3604).2.1 q3601).2.2 q3600).2.2 q3598) (funext fun i => (xpt rfl (fun h1_ => (by simp only [xsc_ne _ _ h1_, xwr_ne _ _ _ h1_])))) rfl)))⟩⟩⟩⟩, fun q3602 => (xR_cF rfl rfl rfl c_95 (by omega) (sg_18_9  (xpost ((h.2 e3596 hp3604).2.2 q3602) (funext fun i => (xpt rfl (fun h1_ => (by simp only [xsc_ne _ _ h1_, xwr_ne _ _ _ h1_])))) rfl)))⟩⟩))))
theorem xup_10 {f : Int → Int} {a k v p : Int} (h : f 10 = 0) : xup (xup (xup (xup f 5 a) 7 k) 8 v) 9 p = xup (xup (xup (xup (xup f 5 a) 7 k) 8 v) 9 p) 10 0 := by
  funext j
  have e : ∀ g : Int → Int, g 10 = 0 → g = xup g 10 0 := fun g hg => by
    funext i
    unfold xup
    by_cases hi : i = 10
    · subst hi; rw [if_pos rfl]; exact hg
    · rw [if_neg hi]
  exact congrFun (e (xup (xup (xup (xup f 5 a) 7 k) 8 v) 9 p) h) j
theorem c_18 {I : XI} {L : XL} {D : GD}   {lo : Int} {hi : Int} (h : (TXT (I 1) (I 2) (I 3) (I 4) (I 5) ∧ I 1 (10 : Int) = 0 ∧ (0 ≤ lo ∧ lo ≤ 1000000) ∧ (-2147483648 ≤ hi ∧ hi ≤ 2147483647))) : xM 1 18 [xr (some 1), xi lo, xi hi] I L (gG D) (0, 0) (fun r2 I2 L2 G2 => ∃ (at9 : Int), TXT (xup (xup (xup (xup (xup (I 1) (5 : Int) at9) (7 : Int) (tkk (I 2) (I 1 (6 : Int)) (nxt (I 2) (I 1 (6 : Int)) (I 1 (9 : Int))))) (8 : Int) (tkv (I 2) (I 1 (6 : Int)) (nxt (I 2) (I 1 (6 : Int)) (I 1 (9 : Int))))) (9 : Int) (nxt (I 2) (I 1 (6 : Int)) (I 1 (9 : Int)))) (10 : Int) (nf (I 2) (I 1 (6 : Int)) (nxt (I 2) (I 1 (6 : Int)) (I 1 (9 : Int))) lo hi)) (I 2) (I 3) (I 4) (I 5) ∧ r2 = (some (xi (if (nf (I 2) (I 1 (6 : Int)) (nxt (I 2) (I 1 (6 : Int)) (I 1 (9 : Int))) lo hi) = 0 then (tnv (I 2) (I 1 (6 : Int)) (nxt (I 2) (I 1 (6 : Int)) (I 1 (9 : Int)))) else -1))) ∧ I2 = (xsc I 1 (xup (xup (xup (xup (xup (I 1) (5 : Int) at9) (7 : Int) (tkk (I 2) (I 1 (6 : Int)) (nxt (I 2) (I 1 (6 : Int)) (I 1 (9 : Int))))) (8 : Int) (tkv (I 2) (I 1 (6 : Int)) (nxt (I 2) (I 1 (6 : Int)) (I 1 (9 : Int))))) (9 : Int) (nxt (I 2) (I 1 (6 : Int)) (I 1 (9 : Int)))) (10 : Int) (nf (I 2) (I 1 (6 : Int)) (nxt (I 2) (I 1 (6 : Int)) (I 1 (9 : Int))) lo hi))) ∧ L2 = L ∧ G2 = (gG D)) := by
  intro d hd
  obtain ⟨hX, h2, h3, h4⟩ := h
  have hT := hX.1
  have hT1 := hT.1
  have hn := (hX.nx).1
  have hq := nxt_in (b := I 2) hn.2
  obtain ⟨q, eq⟩ : ∃ q, nxt (I 2) (I 1 6) (I 1 9) = q := ⟨_, rfl⟩
  rw [eq] at hq
  have h256 := tkk_256 hT (p := q) (by omega)
  have eN : nf (I 2) (I 1 6) q lo hi = if ¬ dgt (I 2) (I 1 6) q = true then 1 + 8 * q + 0 else if lo ≤ tnv (I 2) (I 1 6) q ∧ tnv (I 2) (I 1 6) q ≤ hi then 0 else 1 + 8 * q + 1 := rfl
  have hde := de_all (b := I 2) (n := I 1 6) (p := q)
  have hvr := dvk_rg5 (b := I 2) (n := I 1 6) (q := q) (k := (de_ (I 2) (I 1 6) q - q).toNat) (fun j j0 j1 => hde.2.1 j j0 (by omega))
  have htn : -1 ≤ tnv (I 2) (I 1 6) q ∧ tnv (I 2) (I 1 6) q ≤ 99999 := by unfold tnv; split <;> omega
  have hkr : -2 ≤ tkk (I 2) (I 1 6) q ∧ tkk (I 2) (I 1 6) q ≤ 300 := by
    have htr := tc_rg hT q
    have htw := tw_rg (I 2) (I 1 6) q
    unfold tkk
    (repeat' split) <;> omega
  refine w_18 (by omega) ?_
  simp only [eq]
  refine ⟨hX, fun a9 hX2 => ?_⟩
  by_cases d : dgt (I 2) (I 1 6) q = true
  · have ek : tkk (I 2) (I 1 6) q = 256 := h256.mpr d
    have ev : tkv (I 2) (I 1 6) q = tnv (I 2) (I 1 6) q := if_pos d
    rw [if_neg (fun r => r d)] at eN
    by_cases c : lo ≤ tnv (I 2) (I 1 6) q ∧ tnv (I 2) (I 1 6) q ≤ hi
    · rw [if_pos c] at eN
      rw [eN, if_pos rfl, ev, ek]
      rw [ev, ek] at hX2
      repeat' first | (with_reducible intro _) | (with_reducible refine And.intro ?_ ?_)
      all_goals first | omega | contradiction | (exact absurd rfl (by assumption)) | skip
      all_goals exact ⟨a9, hX2, (by first | rfl | trivial), by (funext i; by_cases h1 : i = 1; (subst h1; first | rfl | exact (xcp_zero _ _ _ _).symm | exact (xup_self _ _).symm | exact (xup_self2 _ _ _).symm | exact (xup_self3 _ _ _ _).symm | exact xup_self _ _ | exact xup_10 h2 | exact (xup_10 h2).symm); first | rfl | simp only [xsc_ne _ _ h1]), (by first | rfl | trivial), (by first | rfl | trivial)⟩
    · rw [if_neg c] at eN
      rw [eN, if_neg (by omega), ev, ek]
      rw [ev, ek] at hX2
      repeat' first | (with_reducible intro _) | (with_reducible refine And.intro ?_ ?_)
      all_goals first | omega | contradiction | (exact absurd rfl (by assumption)) | skip
      all_goals exact ⟨a9, hX2, (by first | rfl | trivial), by first | rfl | (funext i; by_cases h1 : i = 1; (subst h1; first | rfl | exact (xcp_zero _ _ _ _).symm | exact (xup_self _ _).symm | exact (xup_self2 _ _ _).symm | exact (xup_self3 _ _ _ _).symm | exact xup_self _ _ | exact xup_10 h2 | exact (xup_10 h2).symm); first | rfl | simp only [xsc_ne _ _ h1]), (by first | rfl | trivial), (by first | rfl | trivial)⟩
  · have nk : ¬ tkk (I 2) (I 1 6) q = 256 := fun r => d (h256.mp r)
    rw [if_pos d] at eN
    rw [eN, if_neg (by omega)]
    repeat' first | (with_reducible intro _) | (with_reducible refine And.intro ?_ ?_)
    all_goals first | omega | contradiction | skip
    all_goals exact ⟨a9, hX2, (by first | rfl | trivial), by first | rfl | (funext i; by_cases h1 : i = 1; (subst h1; first | rfl | exact (xcp_zero _ _ _ _).symm | exact (xup_self _ _).symm | exact (xup_self2 _ _ _).symm | exact (xup_self3 _ _ _ _).symm | exact xup_self _ _ | exact xup_10 h2 | exact (xup_10 h2).symm); first | rfl | simp only [xsc_ne _ _ h1]), (by first | rfl | trivial), (by first | rfl | trivial)⟩
