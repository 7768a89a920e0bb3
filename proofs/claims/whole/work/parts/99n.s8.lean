def WR (T g g2 l l2 : Int → Int) (e : List Int) : Prop := g2 = wrl g (400 * T 11 + l (T 11)) e ∧ l2 (T 11) = l (T 11) + (e.length : Int)
theorem tw_no {b : Int → Int} {n q : Int} (hT : TPO b n) (q0 : 0 ≤ q) (h : tc b n q < 97) : tw b n q = -1 := by
  have hl : ¬ ltr b n q = true := by
    intro r
    have r1 := of_decide_eq_true r
    have := tc_val hT q0 r1.1
    omega
  have ha := le_all (b := b) (n := n) (p := q)
  unfold tw
  exact if_neg (fun r => hl (ha.2.1 q (Int.le_refl _) (by omega)))
theorem tw_lt0 {b : Int → Int} {n q : Int} (h : 0 ≤ tw b n q) (qn : q ≤ n) : q < le_ b n q ∧ le_ b n q ≤ n := by
  have ha := le_all (b := b) (n := n) (p := q)
  unfold tw at h
  by_cases r : 0 < le_ b n q - q ∧ le_ b n q - q < 8
  · exact ⟨by omega, ha.1.2 qn⟩
  · rw [if_neg r] at h; omega
theorem tc_lt0 {b : Int → Int} {n q : Int} (h : 0 ≤ tc b n q) : q < n := Classical.byContradiction fun r => by have := tc_end (b := b) r; omega
section
variable {b T T1 T2 T3 g g1 g2 g3 l l1 l2 l3 R R1 R2 : Int → Int} {e e1 e2 : List Int}
theorem WR.rf : WR T g g l l [] := ⟨rfl, by show l (T 11) = l (T 11) + ((0 : Nat) : Int); omega⟩
theorem WR.tr (h : WR T g g1 l l1 e) (h2 : WR T1 g1 g2 l1 l2 e2) (h11 : T1 11 = T 11) : WR T g g2 l l2 (e ++ e2) := by
  obtain ⟨a1, a2⟩ := h
  obtain ⟨c1, c2⟩ := h2
  rw [h11] at c1 c2
  refine ⟨?_, ?_⟩
  · rw [wrl_app, ← a1, c1, a2, Int.add_assoc]
  · rw [c2, a2, List.length_append]; omega
theorem RT.mv {p : Int} (h : RT b T l R) (h1 : T 8 ≤ p) (h2 : p ≤ T 1) : RT b (xup T 8 p) l R := by
  obtain ⟨⟨k1, k2, k3, k4, k5, k6, k7⟩, h13, h10, hw, h16⟩ := h
  exact ⟨⟨k1, ⟨by show 0 ≤ p; omega, h2⟩, k3, k4, k5, ⟨k6.1, by show l (T 11) ≤ p; omega⟩, ⟨k7.1, by show l (T 11) + 0 ≤ p; omega⟩⟩, h13, h10, hw, ⟨h16.1, by show l (T 11) + T 16 ≤ p; omega⟩⟩
theorem RT.push {p x : Int} (h : RT b T l R) (hm : MV T T1 p (dpo (x :: OL R T)) (T 16 + 1)) (h1 : T 8 < p) (h2 : p ≤ T 1) (h10 : dpo (x :: OL R T) ≤ 10) (hw : wfs (x :: OL R T) 0) : RT b T1 l (xup R (T 16) x) ∧ OL (xup R (T 16) x) T1 = x :: OL R T := by
  have hp := OL_push (R := R) (x := x) h.2.2.2.2.1 hm.2.2.1
  obtain ⟨hk, -, -, -, h16⟩ := h
  have hk6 := hk.2.2.2.2.2.1
  refine ⟨⟨hm.rk hk ⟨by omega, h2⟩ (by omega), by rw [hp]; exact hm.2.1, by rw [hp]; exact h10, by rw [hp]; exact hw, ?_⟩, hp⟩
  rw [hm.2.2.2 11 (by omega), hm.1, hm.2.2.1]
  omega
/-- at the head of fact's loop -/
def FIV (b T T1 l R R1 : Int → Int) : Prop := RT b T1 l R1 ∧ (∀ j, ¬ (j = 8 ∨ j = 13 ∨ j = 16) → T1 j = T j) ∧ T 8 ≤ T1 8 ∧ ∀ E S M, Q b (T 1) (4, -1, -1, 0, 0, T 8, T 12, OL R T, E, S, M) (4, -1, -1, 0, 0, T1 8, T1 12, OL R1 T1, E, S, M)
def FIW (b T T1 l R R1 : Int → Int) : Prop := RT b T1 l R1 ∧ (∀ j, ¬ (j = 8 ∨ j = 13 ∨ j = 16) → T1 j = T j) ∧ T 8 ≤ T1 8 ∧ ∀ E S M, Q b (T 1) (4, -1, -1, 0, 0, T 8, T 12, OL R T, E, S, M) (0, -1, -1, 1, 0, T1 8, T1 12, OL R1 T1, E, S, M)
/-- a fact was read -/
def FCP (b T T2 g g2 l l2 R R2 : Int → Int) (e : List Int) : Prop := RFr T T2 g g2 l l2 ∧ (0 ≤ T2 9 ∧ T2 9 ≤ 10000) ∧ (T2 9 = 0 → RT b T2 l2 R2 ∧ sk b (T 1) (T2 8) = T2 8 ∧ T 8 < T2 8 ∧ (WR T g g2 l l2 e ∧ e ≠ []) ∧ ∀ E S M, Q b (T 1) (4, -1, -1, 0, 0, T 8, T 12, OL R T, E, S, M) (5, -1, -1, 0, 0, T2 8, T2 12, OL R2 T2, E ++ e, S, M)) ∧ (¬ T2 9 = 0 → ∀ E S M, Q b (T 1) (4, -1, -1, 0, 0, T 8, T 12, OL R T, E, S, M) (sX (T2 9)))
theorem FIV.rf (h : RT b T l R) : FIV b T T l R R := ⟨h, fun _ _ => rfl, Int.le_refl _, fun _ _ _ => Q.rfl_⟩
theorem RT.ok (h : RT b T l R) : TPO b (T 1) ∧ (0 ≤ T 8 ∧ T 8 ≤ T 1) := ⟨h.1.1, h.1.2.1⟩
theorem FIV.opn {x p q : Int} (h : FIV b T T1 l R R1) (hq : sk b (T1 1) (T1 8) = q) (ho : OPP (xup T1 8 q) T2 R1 R2 x) (hx : x = 11 ∨ x = 91) (hn : ¬ T1 13 = 10) (h1 : T1 8 < p) (h2 : p ≤ T1 1) (hs : ∀ E S M, Q b (T1 1) (4, -1, -1, 0, 0, T1 8, T1 12, OL R1 T1, E, S, M) (4, -1, -1, 0, 0, p, T1 12, x :: OL R1 T1, E, S, M)) : FIV b T (xup T2 8 p) l R R2 ∧ T2 1 = T1 1 ∧ T2 8 = q := by
  obtain ⟨hR, hf, h3, hQ⟩ := h
  obtain ⟨e1, e2⟩ := ho.2 hn
  have e1' : T2 = xup (xup (xup T1 8 q) 13 (T1 13 + 1)) 16 (T1 16 + 1) := e1
  have e2' : R2 = xup R1 (T1 16) x := e2
  subst e1'
  subst e2'
  have h13 := hR.2.1
  have h10 := hR.2.2.1
  have hd : dpo (x :: OL R1 T1) = T1 13 + 1 := by
    show (if x = 11 ∨ x = 91 then 1 else 0) + dpo (OL R1 T1) = _
    rw [if_pos hx]; omega
  have hm : MV T1 (xup (xup (xup (xup T1 8 q) 13 (T1 13 + 1)) 16 (T1 16 + 1)) 8 p) p (dpo (x :: OL R1 T1)) (T1 16 + 1) := ⟨rfl, hd.symm, rfl, fun j hj => by rw [xup_ne _ _ (by omega), xup_ne _ _ (by omega), xup_ne _ _ (by omega), xup_ne _ _ (by omega)]⟩
  have hp := hR.push (x := x) hm h1 h2 (by omega) (by
    rcases hx with rfl | rfl
    · exact ⟨rfl, rfl, hR.2.2.2.1⟩
    · exact hR.2.2.2.1)
  have e1 := hf 1 (by omega)
  refine ⟨⟨hp.1, fun j hj => (hm.2.2.2 j hj).trans (hf j hj), by show T 8 ≤ p; omega, fun E S M => (hQ E S M).tr ?_⟩, rfl, rfl⟩
  rw [hp.2, ← e1]
  exact hs E S M
theorem FIV.bad {x q : Int} (h : FIV b T T1 l R R1) (hq : sk b (T1 1) (T1 8) = q) (ho : OPP (xup T1 8 q) T2 R1 R2 x) (hn : T1 13 = 10) (hs : ∀ E S M, Q b (T1 1) (4, -1, -1, 0, 0, T1 8, T1 12, OL R1 T1, E, S, M) (sX (1 + 8 * q + 2))) : FCP b T T2 g g l l R R2 [] ∧ ¬ T2 9 = 0 := by
  obtain ⟨hR, hf, h3, hQ⟩ := h
  obtain ⟨e1, e2⟩ := ho.1 hn
  have e1' : T2 = xup (xup T1 8 q) 9 (1 + 8 * q + 2) := e1
  subst e1'
  have ho1 := hR.ok
  have hn1 := ho1.1.1
  have hs8 := sk_in (b := b) ho1.2.2
  rw [hq] at hs8
  have e1 := hf 1 (by omega)
  refine ⟨⟨⟨fun j hj => by rw [xup_ne _ _ (by omega), xup_ne _ _ (by omega)]; exact hf j (by omega), fun _ _ => rfl, fun _ _ => rfl⟩, ⟨by show 0 ≤ 1 + 8 * q + 2; omega, by show 1 + 8 * q + 2 ≤ 10000; omega⟩, fun r => absurd (show 1 + 8 * q + 2 = 0 from r) (by omega), fun _ E S M => (hQ E S M).tr ?_⟩, fun r => absurd (show 1 + 8 * q + 2 = 0 from r) (by omega)⟩
  rw [← e1]
  exact hs E S M
theorem FIV.dn {q : Int} (h : FIV b T T1 l R R1) (hq : sk b (T1 1) (T1 8) = q) (h1 : ¬ tw b (T1 1) q = 15) (h2 : ¬ tc b (T1 1) q = 91) : FIW b T (xup T1 8 q) l R R1 := by
  obtain ⟨hR, hf, h3, hQ⟩ := h
  have ho1 := hR.ok
  have hs8 := sk_in (b := b) ho1.2.2
  have e1 := hf 1 (by omega)
  subst hq
  refine ⟨hR.mv hs8.1 hs8.2, fun j hj => by rw [xup_ne _ _ (by omega)]; exact hf j hj, by show T 8 ≤ sk b (T1 1) (T1 8); omega, fun E S M => (hQ E S M).tr ?_⟩
  rw [← e1]
  exact (q4c h1 h2).tr (q0s ho1.2.2)
theorem RT.pg (h : RT b T l R) (hp : PG b T T1 g g1 l l1 e) : RT b T1 l1 R := by
  obtain ⟨hk, h13, h10, hw, h16⟩ := h
  obtain ⟨a1, a2, a3, a4, a5, a6, a7, a8⟩ := hp
  have eo : OL R T1 = OL R T := OL_eq a2.2
  refine ⟨a3, by rw [eo, a2.1]; exact h13, by rw [eo]; exact h10, by rw [eo]; exact hw, ?_⟩
  rw [a1.1 11 (by omega), a8, a2.2]
  omega
theorem FIW.cm (h : FIW b T T1 l R R1) (hc : CMPP b T1 T2 g g2 l l2 e) : FCP b T T2 g g2 l l2 R R1 e := by
  obtain ⟨hR, hf, h3, hQ⟩ := h
  obtain ⟨c1, c2, c3, c4⟩ := hc
  have e1 := hf 1 (by omega)
  have e11 := hf 11 (by omega)
  refine ⟨⟨fun j hj => (c1.1 j hj).trans (hf j (by omega)), fun j hj => c1.2.1 j (by rw [e11]; exact hj), fun j hj => c1.2.2 j (by rw [e11]; exact hj)⟩, c2, fun h0 => ?_, fun h0 E S M => (hQ E S M).tr ?_⟩
  · obtain ⟨p1, p2, p3, p4, pne, p5⟩ := c3 h0
    have hp := hR.pg p1
    have w1 := p1.2.2.2.2.2.2
    rw [e11] at w1
    have eo : OL R1 T2 = OL R1 T1 := OL_eq p1.2.1.2
    refine ⟨hp, by rw [← e1]; exact p2, by omega, ⟨w1, pne⟩, fun E S M => (hQ E S M).tr ?_⟩
    rw [eo, ← e1]
    exact p5 _ E S M
  · rw [← e1]
    exact c4 h0 _ E S M
end
set_option maxRecDepth 8000 in
theorem sg_171_0_r {d : Nat} {I : XI} {L : XL} {D : GD} {post : XQ}   (h : xR d 171 es_171 2 [xr (some 101), xi (1 : Int), xt 0] [] I L (gG D) 0 0 post) : xR d 171 es_171 0 [xr (some 101), xt 0, xt 0] [] I L (gG D) 0 0 post := xW_R (fun k => Nat.beq k 2 || Nat.beq k 7 || Nat.beq k 11 || Nat.beq k 15 || Nat.beq k 20 || Nat.beq k 29 || Nat.beq k 43) 2 _ _ _ _ _ _ _ _ _ _ _ _ h
set_option maxRecDepth 8000 in
theorem w_171_r {d : Nat} {I : XI} {L : XL} {D : GD} {post : XQ}    (hd : 0 ≤ d) (h : xR d 171 es_171 2 [xr (some 101), xi (1 : Int), xt 0] [] I L (gG D) 0 0 post) : xR d 171 es_171 0 [xr (some 101), xt 0, xt 0] [] I L (gG D) 0 0 post := sg_171_0_r  (h)
set_option maxRecDepth 8000 in
theorem sg_171_2_r {d : Nat} {I : XI} {L : XL} {D : GD} {post : XQ}  {u1 : Int} {u2 : XV} (h : ((-2147483648 ≤ u1 ∧ u1 ≤ 2147483647) ∧ ((u1 = 0 → xR d 171 es_171 43 [xr (some 101), xi u1, u2] [xr (some 101)] I L (gG D) 0 0 post) ∧ (¬ u1 = 0 → xR d 171 es_171 7 [xr (some 101), xi (0 : Int), u2] [xr (some 101)] I L (gG D) 0 0 post)))) : xR d 171 es_171 2 [xr (some 101), xi u1, u2] [] I L (gG D) 0 0 post := xW_R (fun k => Nat.beq k 2 || Nat.beq k 7 || Nat.beq k 11 || Nat.beq k 15 || Nat.beq k 20 || Nat.beq k 29 || Nat.beq k 43) 5 _ _ _ _ _ _ _ _ _ _ _ _ h
set_option maxRecDepth 8000 in
theorem sg_171_44_r {d : Nat} {I : XI} {L : XL} {D : GD} {post : XQ}  {u1 : Int} {u2 : XV} {w0 : Int} (h : ((w0 = 0 ∨ w0 = 1) ∧ post (some (xi w0)) I L (gG D))) : xR d 171 es_171 44 [xr (some 101), xi u1, u2] [xi w0] I L (gG D) 0 0 post := xW_R (fun k => Nat.beq k 2 || Nat.beq k 7 || Nat.beq k 11 || Nat.beq k 15 || Nat.beq k 20 || Nat.beq k 29 || Nat.beq k 43) 1 _ _ _ _ _ _ _ _ _ _ _ _ h
set_option maxRecDepth 8000 in
theorem sg_171_8_r {d : Nat} {I : XI} {L : XL} {D : GD} {post : XQ}  {u1 : Int} {u2 : XV} {w0 : Int} (h : xR d 171 es_171 11 [xr (some 101), xi u1, xi w0] [xl (Int64.ofInt 7237492), xr (some 101)] I L (gG D) 0 0 post) : xR d 171 es_171 8 [xr (some 101), xi u1, u2] [xi w0] I L (gG D) 0 0 post := xW_R (fun k => Nat.beq k 2 || Nat.beq k 7 || Nat.beq k 11 || Nat.beq k 15 || Nat.beq k 20 || Nat.beq k 29 || Nat.beq k 43) 3 _ _ _ _ _ _ _ _ _ _ _ _ h
set_option maxRecDepth 8000 in
theorem sg_171_12_r {d : Nat} {I : XI} {L : XL} {D : GD} {post : XQ}  {u1 : Int} {u2 : Int} {w0 : Int} (h : ((-2147483648 ≤ w0 ∧ w0 ≤ 2147483647) ∧ ((w0 = 0 → (((-2147483648 ≤ u2 ∧ u2 ≤ 2147483647) ∧ (-2147483648 ≤ (91 : Int) ∧ (91 : Int) ≤ 2147483647)) ∧ ((¬ u2 = (91 : Int) → xR d 171 es_171 2 [xr (some 101), xi u1, xi u2] [] I L (gG D) 0 0 post) ∧ (u2 = (91 : Int) → xR d 171 es_171 29 [xr (some 101), xi u1, xi u2] [xi (91 : Int), xr (some 101)] I L (gG D) 0 0 post)))) ∧ (¬ w0 = 0 → xR d 171 es_171 15 [xr (some 101), xi u1, xi u2] [xi (11 : Int), xr (some 101)] I L (gG D) 0 0 post)))) : xR d 171 es_171 12 [xr (some 101), xi u1, xi u2] [xi w0] I L (gG D) 0 0 post := xW_R (fun k => Nat.beq k 2 || Nat.beq k 7 || Nat.beq k 11 || Nat.beq k 15 || Nat.beq k 20 || Nat.beq k 29 || Nat.beq k 43) 6 _ _ _ _ _ _ _ _ _ _ _ _ h
set_option maxRecDepth 8000 in
theorem sg_171_30_r {d : Nat} {I : XI} {L : XL} {D : GD} {post : XQ}  {u1 : Int} {u2 : Int} {w0 : Int} (h : ((-2147483648 ≤ w0 ∧ w0 ≤ 2147483647) ∧ ((¬ w0 = 0 → xR d 171 es_171 2 [xr (some 101), xi (1 : Int), xi u2] [] (xwr I 101 (8 : Int) ((I 101 (8 : Int)) + (1 : Int))) L (gG D) 0 0 post) ∧ (w0 = 0 → (((0 : Int) = 0 ∨ (0 : Int) = 1) ∧ post (some (xi (0 : Int))) I L (gG D)))))) : xR d 171 es_171 30 [xr (some 101), xi u1, xi u2] [xi w0] I L (gG D) 0 0 post := xW_R (fun k => Nat.beq k 2 || Nat.beq k 7 || Nat.beq k 11 || Nat.beq k 15 || Nat.beq k 20 || Nat.beq k 29 || Nat.beq k 43) 10 _ _ _ _ _ _ _ _ _ _ _ _ h
set_option maxRecDepth 8000 in
theorem sg_171_16_r {d : Nat} {I : XI} {L : XL} {D : GD} {post : XQ}  {u1 : Int} {u2 : Int} {w0 : Int} (h : ((-2147483648 ≤ w0 ∧ w0 ≤ 2147483647) ∧ ((¬ w0 = 0 → xR d 171 es_171 20 [xr (some 101), xi u1, xi u2] [xr (some 101)] I L (gG D) 0 0 post) ∧ (w0 = 0 → (((0 : Int) = 0 ∨ (0 : Int) = 1) ∧ post (some (xi (0 : Int))) I L (gG D)))))) : xR d 171 es_171 16 [xr (some 101), xi u1, xi u2] [xi w0] I L (gG D) 0 0 post := xW_R (fun k => Nat.beq k 2 || Nat.beq k 7 || Nat.beq k 11 || Nat.beq k 15 || Nat.beq k 20 || Nat.beq k 29 || Nat.beq k 43) 3 _ _ _ _ _ _ _ _ _ _ _ _ h
set_option maxRecDepth 8000 in
theorem sg_171_21_r {d : Nat} {I : XI} {L : XL} {D : GD} {post : XQ}  {u1 : Int} {u2 : Int} (h : xR d 171 es_171 2 [xr (some 101), xi (1 : Int), xi u2] [] I L (gG D) 0 0 post) : xR d 171 es_171 21 [xr (some 101), xi u1, xi u2] [] I L (gG D) 0 0 post := xW_R (fun k => Nat.beq k 2 || Nat.beq k 7 || Nat.beq k 11 || Nat.beq k 15 || Nat.beq k 20 || Nat.beq k 29 || Nat.beq k 43) 4 _ _ _ _ _ _ _ _ _ _ _ _ h
set_option maxRecDepth 8000 in
theorem b_171_r {d : Nat} {I : XI} {L : XL} {D : GD} {post : XQ} {T1 R1 : Int → Int}  {mo : Int} {x1 : XV} (hd : 7 ≤ d) (h : (((-2147483648 ≤ mo ∧ mo ≤ 2147483647)) ∧ ((mo = 0 → (RK (I 102) T1 (I 104) ∧ (∀ (e4732 : Int → Int) (e4733 : Int → Int) (e4734 : Int → Int) (e4735 : List Int), (CMPP (I 102) T1 e4732 (I 103) e4733 (I 104) e4734 e4735 → post (some (xi (xb (e4732 9 = 0)))) (xsc (xsc (xsc (xsc I 101 e4732) 103 e4733) 104 e4734) 108 R1) L (gG D))))) ∧ (¬ mo = 0 → ((TPO (I 102) (T1 (1 : Int)) ∧ (0 ≤ T1 (8 : Int) ∧ T1 (8 : Int) ≤ T1 (1 : Int))) ∧ (((TPO (I 102) (T1 (1 : Int)) ∧ (0 ≤ (sk (I 102) (T1 (1 : Int)) (T1 (8 : Int))) ∧ (sk (I 102) (T1 (1 : Int)) (T1 (8 : Int))) ≤ T1 (1 : Int))) ∧ (sk (I 102) (T1 (1 : Int)) (sk (I 102) (T1 (1 : Int)) (T1 (8 : Int)))) = (sk (I 102) (T1 (1 : Int)) (T1 (8 : Int)))) ∧ (((¬ (twd (I 102) (T1 (1 : Int)) (sk (I 102) (T1 (1 : Int)) (T1 (8 : Int))) (Int64.ofInt 7237492) = true) → (((-2147483648 ≤ (tc (I 102) (T1 (1 : Int)) (sk (I 102) (T1 (1 : Int)) (T1 (8 : Int)))) ∧ (tc (I 102) (T1 (1 : Int)) (sk (I 102) (T1 (1 : Int)) (T1 (8 : Int)))) ≤ 2147483647)) ∧ ((¬ (tc (I 102) (T1 (1 : Int)) (sk (I 102) (T1 (1 : Int)) (T1 (8 : Int)))) = (91 : Int) → xR d 171 es_171 2 [xr (some 101), xi (0 : Int), xi (tc (I 102) (T1 (1 : Int)) (sk (I 102) (T1 (1 : Int)) (T1 (8 : Int))))] [] (xsc (xsc I 101 (xup T1 (8 : Int) (sk (I 102) (T1 (1 : Int)) (T1 (8 : Int))))) 108 R1) L (gG D) 0 0 post) ∧ ((tc (I 102) (T1 (1 : Int)) (sk (I 102) (T1 (1 : Int)) (T1 (8 : Int)))) = (91 : Int) → ((T1 (9 : Int) = 0 ∧ (0 ≤ T1 (13 : Int) ∧ T1 (13 : Int) ≤ 10) ∧ (0 ≤ T1 (16 : Int) ∧ T1 (16 : Int) < 400) ∧ (0 ≤ (sk (I 102) (T1 (1 : Int)) (T1 (8 : Int))) ∧ (sk (I 102) (T1 (1 : Int)) (T1 (8 : Int))) ≤ 400)) ∧ (∀ (e4736 : Int → Int) (e4737 : Int → Int), (OPP (xup T1 (8 : Int) (sk (I 102) (T1 (1 : Int)) (T1 (8 : Int)))) e4736 R1 e4737 (91 : Int) → (((¬ T1 (13 : Int) = 10 → xR d 171 es_171 2 [xr (some 101), xi (1 : Int), xi (tc (I 102) (T1 (1 : Int)) (sk (I 102) (T1 (1 : Int)) (T1 (8 : Int))))] [] (xsc (xsc I 101 (xup e4736 (8 : Int) ((e4736 (8 : Int)) + (1 : Int)))) 108 e4737) L (gG D) 0 0 post) ∧ (¬ (¬ T1 (13 : Int) = 10) → post (some (xi (0 : Int))) (xsc (xsc I 101 e4736) 108 e4737) L (gG D))))))))))) ∧ (twd (I 102) (T1 (1 : Int)) (sk (I 102) (T1 (1 : Int)) (T1 (8 : Int))) (Int64.ofInt 7237492) = true → ((T1 (9 : Int) = 0 ∧ (0 ≤ T1 (13 : Int) ∧ T1 (13 : Int) ≤ 10) ∧ (0 ≤ T1 (16 : Int) ∧ T1 (16 : Int) < 400) ∧ (0 ≤ (sk (I 102) (T1 (1 : Int)) (T1 (8 : Int))) ∧ (sk (I 102) (T1 (1 : Int)) (T1 (8 : Int))) ≤ 400)) ∧ (∀ (e4742 : Int → Int) (e4743 : Int → Int), (OPP (xup T1 (8 : Int) (sk (I 102) (T1 (1 : Int)) (T1 (8 : Int)))) e4742 R1 e4743 (11 : Int) → (((¬ T1 (13 : Int) = 10 → ((TPO (I 102) (e4742 (1 : Int)) ∧ (0 ≤ e4742 (8 : Int) ∧ e4742 (8 : Int) ≤ e4742 (1 : Int))) ∧ xR d 171 es_171 2 [xr (some 101), xi (1 : Int), xi (tc (I 102) (T1 (1 : Int)) (sk (I 102) (T1 (1 : Int)) (T1 (8 : Int))))] [] (xsc (xsc I 101 (xup e4742 (8 : Int) (le_ (I 102) (e4742 (1 : Int)) (e4742 (8 : Int))))) 108 e4743) L (gG D) 0 0 post)) ∧ (¬ (¬ T1 (13 : Int) = 10) → post (some (xi (0 : Int))) (xsc (xsc I 101 e4742) 108 e4743) L (gG D)))))))))))))))) : xR d 171 es_171 2 [xr (some 101), xi mo, x1] [] (xsc (xsc I 101 T1) 108 R1) L (gG D) 0 0 post := sg_171_2_r  (⟨h.1, ⟨fun q4748 => (xR_cQ rfl rfl rfl (c_170_r (h.2.1 q4748).1) (by omega) (fun _ _ _ _ hx4750 => by obtain ⟨e4732, e4733, e4734, e4735, hp4751, rfl, rfl, rfl, rfl⟩ := hx4750; exact (sg_171_44_r  ⟨(xb_01 _), (xpost ((h.2.1 q4748).2 e4732 e4733 e4734 e4735 hp4751) (funext fun i => (xpt rfl (fun h108_ => (xpt rfl (fun h104_ => (xpt rfl (fun h103_ => (xpt rfl (fun h101_ => (by simp only [xsc_ne _ _ h101_, xwr_ne _ _ _ h101_, xsc_ne _ _ h103_, xwr_ne _ _ _ h103_, xsc_ne _ _ h104_, xwr_ne _ _ _ h104_, xsc_ne _ _ h108_, xwr_ne _ _ _ h108_])))))))))) rfl)⟩))), fun q4749 => (xR_cF rfl rfl rfl (c_154 (h.2.2 q4749).1) (by omega) (sg_171_8_r  (xR_cF rfl rfl rfl (c_157_s (h.2.2 q4749).2.1) (by omega) (sg_171_12_r  ⟨(xb_rg _), ⟨fun q4746 => ⟨⟨((h.2.2 q4749).2.2.1 (xb_0 q4746)).1, (by decide)⟩, ⟨fun q4740 => (xR_memc (((h.2.2 q4749).2.2.1 (xb_0 q4746)).2.1 q4740) (funext fun i => (xpt rfl (fun h108_ => (xpt rfl (fun h101_ => (by simp only [xsc_ne _ _ h101_, xwr_ne _ _ _ h101_, xsc_ne _ _ h108_, xwr_ne _ _ _ h108_])))))) rfl), fun q4741 => (xR_cQ rfl rfl rfl (c_164_r (((h.2.2 q4749).2.2.1 (xb_0 q4746)).2.2 q4741).1) (by omega) (fun _ _ _ _ hx4752 => by obtain ⟨e4736, e4737, hp4753, rfl, rfl, rfl, rfl⟩ := hx4752; exact (sg_171_30_r  ⟨(xb_rg _), ⟨fun q4738 => (xR_memc (((((h.2.2 q4749).2.2.1 (xb_0 q4746)).2.2 q4741).2 e4736 e4737 hp4753).1 (xb_n0 q4738)) (funext fun i => (xpt rfl (fun h108_ => (xpt rfl (fun h101_ => (by simp only [xsc_ne _ _ h101_, xwr_ne _ _ _ h101_, xsc_ne _ _ h108_, xwr_ne _ _ _ h108_])))))) rfl), fun q4739 => ⟨(by decide), (xpost (((((h.2.2 q4749).2.2.1 (xb_0 q4746)).2.2 q4741).2 e4736 e4737 hp4753).2 (xb_0 q4739)) (funext fun i => (xpt rfl (fun h108_ => (xpt rfl (fun h101_ => (by simp only [xsc_ne _ _ h101_, xwr_ne _ _ _ h101_, xsc_ne _ _ h108_, xwr_ne _ _ _ h108_])))))) rfl)⟩⟩⟩)))⟩⟩, fun q4747 => (xR_cQ rfl rfl rfl (c_164_r ((h.2.2 q4749).2.2.2 (xb_n0 q4747)).1) (by omega) (fun _ _ _ _ hx4754 => by obtain ⟨e4742, e4743, hp4755, rfl, rfl, rfl, rfl⟩ := hx4754; exact (sg_171_16_r  ⟨(xb_rg _), ⟨fun q4744 => (xR_cF rfl rfl rfl (c_158 ((((h.2.2 q4749).2.2.2 (xb_n0 q4747)).2 e4742 e4743 hp4755).1 (xb_n0 q4744)).1) (by omega) (sg_171_21_r  (xR_memc ((((h.2.2 q4749).2.2.2 (xb_n0 q4747)).2 e4742 e4743 hp4755).1 (xb_n0 q4744)).2 (funext fun i => (xpt rfl (fun h108_ => (xpt rfl (fun h101_ => (by simp only [xsc_ne _ _ h101_, xwr_ne _ _ _ h101_, xsc_ne _ _ h108_, xwr_ne _ _ _ h108_])))))) rfl))), fun q4745 => ⟨(by decide), (xpost ((((h.2.2 q4749).2.2.2 (xb_n0 q4747)).2 e4742 e4743 hp4755).2 (xb_0 q4745)) (funext fun i => (xpt rfl (fun h108_ => (xpt rfl (fun h101_ => (by simp only [xsc_ne _ _ h101_, xwr_ne _ _ _ h101_, xsc_ne _ _ h108_, xwr_ne _ _ _ h108_])))))) rfl)⟩⟩⟩)))⟩⟩))))⟩⟩)
theorem lp_171 {I : XI} {L : XL} {D : GD} {d : Nat} {post : XQ} (hd : 7 ≤ d) (hpo : ∀ (T9 g9 l9 R9 : Int → Int) (e9 : List Int), FCP (I 102) (I 101) T9 (I 103) g9 (I 104) l9 (I 108) R9 e9 → post (some (xi (xb (T9 9 = 0)))) (xsc (xsc (xsc (xsc I 101 T9) 103 g9) 104 l9) 108 R9) L (gG D)) : ∀ (r : Nat) (T1 R1 : Int → Int) (x1 : XV), (I 101 1 - T1 8).toNat < r → FIV (I 102) (I 101) T1 (I 104) (I 108) R1 → xR d 171 es_171 2 [xr (some 101), xi 1, x1] [] (xsc (xsc I 101 T1) 108 R1) L (gG D) 0 0 post := by
  intro r
  induction r with
  | zero => intro T1 R1 x1 hr hI; omega
  | succ r ih =>
    intro T1 R1 x1 hr hI
    have hR := hI.1
    have hok := hR.ok
    have hn := hok.1.1
    have h1e := hI.2.1 1 (by omega)
    have h9 : T1 9 = 0 := hR.1.2.2.1
    have h13 : T1 13 = _ := hR.2.1
    have h10 := hR.2.2.1
    have h1z := dpo_0 (OL R1 T1)
    have h16 := hR.2.2.2.2
    have hlg := hR.1.2.2.2.2.2.1
    have hs := sk_in (b := I 102) hok.2.2
    have hss := sk_sk (b := I 102) hok.2.2
    obtain ⟨q, hq⟩ : ∃ q, sk (I 102) (T1 1) (T1 8) = q := ⟨_, rfl⟩
    rw [hq] at hs hss
    have hrg := tc_rg hok.1 q
    have zero : ∀ x2 : XV, FIW (I 102) (I 101) (xup T1 8 q) (I 104) (I 108) R1 → xR d 171 es_171 2 [xr (some 101), xi 0, x2] [] (xsc (xsc I 101 (xup T1 8 q)) 108 R1) L (gG D) 0 0 post := by
      intro x2 hw
      refine b_171_r (by omega) ?_
      refine ⟨⟨by decide, by decide⟩, fun _ => ⟨hw.1.1, fun T9 g9 l9 e9 hc => hpo _ _ _ _ _ (hw.cm hc)⟩, fun r => absurd rfl r⟩
    have bad : ∀ (T2 R2 : Int → Int) (hf : FCP (I 102) (I 101) T2 (I 103) (I 103) (I 104) (I 104) (I 108) R2 [] ∧ ¬ T2 9 = 0), post (some (xi 0)) (xsc (xsc I 101 T2) 108 R2) L (gG D) := by
      intro T2 R2 hf
      have hz := hpo _ _ _ _ _ hf.1
      rw [xb_f hf.2] at hz
      exact xpost hz (by (funext i; by_cases h101 : i = 101; (subst h101; first | rfl | exact (xcp_zero _ _ _ _).symm | exact (xup_self _ _).symm | exact (xup_self2 _ _ _).symm | exact (xup_self3 _ _ _ _).symm | exact xup_self _ _); by_cases h103 : i = 103; (subst h103; first | rfl | exact (xcp_zero _ _ _ _).symm | exact (xup_self _ _).symm | exact (xup_self2 _ _ _).symm | exact (xup_self3 _ _ _ _).symm | exact xup_self _ _); by_cases h104 : i = 104; (subst h104; first | rfl | exact (xcp_zero _ _ _ _).symm | exact (xup_self _ _).symm | exact (xup_self2 _ _ _).symm | exact (xup_self3 _ _ _ _).symm | exact xup_self _ _); by_cases h108 : i = 108; (subst h108; first | rfl | exact (xcp_zero _ _ _ _).symm | exact (xup_self _ _).symm | exact (xup_self2 _ _ _).symm | exact (xup_self3 _ _ _ _).symm | exact xup_self _ _); first | rfl | simp only [xsc_ne _ _ h101, xsc_ne _ _ h103, xsc_ne _ _ h104, xsc_ne _ _ h108])) rfl
    refine b_171_r (by omega) ?_
    simp only [hq, hss, twe_15]
    refine ⟨⟨by decide, by decide⟩, fun r => absurd r (by decide), fun _ => ⟨hok, ⟨⟨hok.1, by omega, hs.2⟩, (by first | rfl | trivial)⟩, fun nw => ⟨⟨by omega, by omega⟩, fun nb => ?_, fun yb => ?_⟩, fun yw => ?_⟩⟩
    · exact zero _ (hI.dn hq nw nb)
    · have hlt := tc_lt0 (b := I 102) (n := T1 1) (q := q) (by omega)
      refine ⟨⟨h9, ⟨by omega, by omega⟩, ⟨h16.1, by omega⟩, ⟨by omega, by omega⟩⟩, fun T2 R2 ho => ⟨fun hn13 => ?_, fun hn13 => ?_⟩⟩
      · have hz := hI.opn (p := q + 1) hq ho (Or.inr rfl) hn13 (by omega) (by omega) (fun E S M => by have h := q4b (b := I 102) (n := T1 1) (lo := -1) (ti := -1) (cx := 0) (sg := 0) (p := T1 8) (k := T1 12) (O := OL R1 T1) (E := E) (S := S) (M := M) (by rw [hq]; exact nw) (by rw [hq]; exact yb) (by omega); rw [hq] at h; exact h)
        rw [hz.2.2]
        exact ih _ _ _ (by show (I 101 1 - (q + 1)).toNat < r; omega) hz.1
      · have hn2 : T1 13 = 10 := Classical.byContradiction hn13
        exact bad _ _ (hI.bad hq ho hn2 (fun E S M => by have h := q4bf (b := I 102) (n := T1 1) (lo := -1) (ti := -1) (cx := 0) (sg := 0) (p := T1 8) (k := T1 12) (O := OL R1 T1) (E := E) (S := S) (M := M) (by rw [hq]; exact nw) (by rw [hq]; exact yb) (by omega); rw [hq] at h; exact h))
    · have hlt := tw_lt0 (b := I 102) (n := T1 1) (q := q) (by omega) (by omega)
      refine ⟨⟨h9, ⟨by omega, by omega⟩, ⟨h16.1, by omega⟩, ⟨by omega, by omega⟩⟩, fun T2 R2 ho => ⟨fun hn13 => ?_, fun hn13 => ?_⟩⟩
      · have hz := hI.opn (p := le_ (I 102) (T1 1) q) hq ho (Or.inl rfl) hn13 (by omega) (by omega) (fun E S M => by have h := q4n (b := I 102) (n := T1 1) (lo := -1) (ti := -1) (cx := 0) (sg := 0) (p := T1 8) (k := T1 12) (O := OL R1 T1) (E := E) (S := S) (M := M) (by rw [hq]; exact yw) (by omega); rw [hq] at h; exact h)
        rw [hz.2.2, hz.2.1]
        exact ⟨⟨hok.1, by omega, hs.2⟩, ih _ _ _ (by show (I 101 1 - le_ (I 102) (T1 1) q).toNat < r; omega) hz.1⟩
      · have hn2 : T1 13 = 10 := Classical.byContradiction hn13
        exact bad _ _ (hI.bad hq ho hn2 (fun E S M => by have h := q4nf (b := I 102) (n := T1 1) (lo := -1) (ti := -1) (cx := 0) (sg := 0) (p := T1 8) (k := T1 12) (O := OL R1 T1) (E := E) (S := S) (M := M) (by rw [hq]; exact yw) (by omega); rw [hq] at h; exact h))
theorem c_171_r {I : XI} {L : XL} {D : GD}    (h : RT (I 102) (I 101) (I 104) (I 108)) : xM 7 171 [xr (some 101)] I L (gG D) (0, 0) (fun r2 I2 L2 G2 => ∃ (T9 : Int → Int) (g9 : Int → Int) (l9 : Int → Int) (R9 : Int → Int) (e9 : List Int), FCP (I 102) (I 101) T9 (I 103) g9 (I 104) l9 (I 108) R9 e9 ∧ r2 = (some (xi (xb (T9 9 = 0)))) ∧ I2 = (xsc (xsc (xsc (xsc I 101 T9) 103 g9) 104 l9) 108 R9) ∧ L2 = L ∧ G2 = (gG D)) := by
  intro d hd
  refine w_171_r (by omega) ?_
  exact xR_memc (lp_171 (by omega) (fun _ _ _ _ _ hz => ⟨_, _, _, _, _, hz, rfl, rfl, rfl, rfl⟩) _ (I 101) (I 108) _ (Nat.lt_succ_self _) (FIV.rf h)) (by (funext i; by_cases h101 : i = 101; (subst h101; first | rfl | exact (xcp_zero _ _ _ _).symm | exact (xup_self _ _).symm | exact (xup_self2 _ _ _).symm | exact (xup_self3 _ _ _ _).symm | exact xup_self _ _); by_cases h108 : i = 108; (subst h108; first | rfl | exact (xcp_zero _ _ _ _).symm | exact (xup_self _ _).symm | exact (xup_self2 _ _ _).symm | exact (xup_self3 _ _ _ _).symm | exact xup_self _ _); first | rfl | simp only [xsc_ne _ _ h101, xsc_ne _ _ h108])) rfl
section
variable {b T T1 T2 T3 g g1 g2 g3 l l1 l2 l3 R R1 R2 : Int → Int} {e e1 e2 : List Int}
/-- at the head of closes' loop -/
def CLI (b R T T1 g g1 l l1 : Int → Int) (e : List Int) : Prop := RT b T1 l1 R ∧ RFr T T1 g g1 l l1 ∧ T1 12 = T 12 ∧ T 8 ≤ T1 8 ∧ WR T g g1 l l1 e ∧ ¬ (OL R T1).headD 0 = 11 ∧ ∀ E S M, Q b (T 1) (5, -1, -1, 0, 0, T 8, T 12, OL R T, E, S, M) (5, -1, -1, 0, 0, T1 8, T1 12, OL R T1, E ++ e, S, M)
def CLO (b R T T1 g g1 l l1 : Int → Int) (e : List Int) : Prop := CLI b R T T1 g g1 l l1 e ∧ sk b (T 1) (T1 8) = T1 8 ∧ (¬ tc b (T 1) (T1 8) = 93 ∨ ¬ ins9 (OL R T1) = true)
theorem CLI.st (hs : STP 3 b R T T1 g g1 l l1) : CLI b R T T1 g g1 l l1 (spop 3 (OL R T)) := by
  obtain ⟨s1, s2, s3, s4, s5, s6⟩ := hs
  refine ⟨s3, s1, s2.2, by omega, ⟨s5, s6⟩, by rw [s4]; exact srst3_hd _, fun E S M => ?_⟩
  rw [s4, s2.1, s2.2]
  exact q5t _ E
theorem CLI.en {q : Int} (h : CLI b R T T1 g g1 l l1 e) (hq : sk b (T1 1) (T1 8) = q) (hc : ¬ tc b (T1 1) q = 93 ∨ ¬ ins9 (OL R (xup T1 8 q)) = true) : CLO b R T (xup T1 8 q) g g1 l l1 e := by
  obtain ⟨h1, h2, h3, h4, h5, h6, h7⟩ := h
  have hok := h1.ok
  have hs := sk_in (b := b) hok.2.2
  have hss := sk_sk (b := b) hok.2.2
  have e1 := h2.1 1 (by omega)
  subst hq
  refine ⟨⟨h1.mv hs.1 hs.2, ⟨fun j hj => by rw [xup_ne _ _ (by omega)]; exact h2.1 j hj, h2.2⟩, h3, by show T 8 ≤ sk b (T1 1) (T1 8); omega, h5, h6, fun E S M => (h7 E S M).tr ?_⟩, ?_, ?_⟩
  · rw [← e1]; exact q5k hok.2.2 _ _ _ _ _ _
  · rw [← e1]; exact hss
  · rw [← e1]; exact hc
theorem CLI.s1 {q : Int} (h : CLI b R T T1 g g1 l l1 e) (hq : sk b (T1 1) (T1 8) = q) (hc : tc b (T1 1) q = 93) (hi : ins9 (OL R (xup T1 8 q)) = true) (hs : STP 1 b R (xup T1 8 q) T2 g1 g2 l1 l2) : RT b (xup (xup (xup T2 16 (T2 16 - 1)) 13 (T2 13 - 1)) 8 (T2 8 + 1)) l2 R ∧ T2 8 = q ∧ q < T1 1 := by
  obtain ⟨h1, h2, h3, h4, h5, h6, h7⟩ := h
  have hok := h1.ok
  have hi' : ins9 (OL R T1) = true := hi
  have hsk := sk_in (b := b) hok.2.2
  have hlt := tc_lt0 (b := b) (n := T1 1) (q := q) (by omega)
  obtain ⟨s1, s2, s3, s4, s5, s6⟩ := hs
  have e1 : T2 1 = T1 1 := s1.1 1 (by omega)
  have e8 : T2 8 = q := s2.1
  obtain ⟨hE, -⟩ := q5end (b := b) (n := T1 1) (p := T1 8) (k := 0) (S := []) (M := []) h1.2.2.2.1 h6
  have s4' : OL R T2 = srst 1 (OL R T1) := s4
  rcases hE with ⟨_, r⟩ | ⟨t, t1, t2, t3, t4⟩
  · rw [hi'] at r; exact absurd r (by decide)
  · rw [t1] at s4'
    have h16 : 0 < T2 16 := by
      have hl := OL_len (R := R) (T := T2)
      rw [s4'] at hl
      have : t.length + 1 = (T2 16).toNat := hl
      omega
    have hp := OL_pop (R := R) (T1 := xup (xup (xup T2 16 (T2 16 - 1)) 13 (T2 13 - 1)) 8 (T2 8 + 1)) h16 rfl
    rw [s4'] at hp
    have hp2 : t = OL R (xup (xup (xup T2 16 (T2 16 - 1)) 13 (T2 13 - 1)) 8 (T2 8 + 1)) := (List.cons.inj hp).2
    have hm : MV T2 (xup (xup (xup T2 16 (T2 16 - 1)) 13 (T2 13 - 1)) 8 (T2 8 + 1)) (T2 8 + 1) (T2 13 - 1) (T2 16 - 1) := ⟨rfl, rfl, rfl, fun j hj => by rw [xup_ne _ _ (by omega), xup_ne _ _ (by omega), xup_ne _ _ (by omega)]⟩
    have h13 := s3.2.1
    have h10 := s3.2.2.1
    rw [s4'] at h13 h10
    have hd : dpo (91 :: t) = 1 + dpo t := rfl
    have hk6 := s3.1.2.2.2.2.2.1
    refine ⟨⟨hm.rk s3.1 ⟨by omega, by omega⟩ (by omega), ?_, ?_, ?_, ?_⟩, e8, hlt⟩
    · rw [← hp2]; show T2 13 - 1 = _; omega
    · rw [← hp2]; omega
    · rw [← hp2]; exact t3
    · have h16b := s3.2.2.2.2
      show 0 ≤ T2 16 - 1 ∧ l2 (T2 11) + (T2 16 - 1) ≤ T2 8 + 1
      omega
theorem CLI.s2 {q : Int} (h : CLI b R T T1 g g1 l l1 e) (hq : sk b (T1 1) (T1 8) = q) (hc : tc b (T1 1) q = 93) (hi : ins9 (OL R (xup T1 8 q)) = true) (hs : STP 1 b R (xup T1 8 q) T2 g1 g2 l1 l2) (hs2 : STP 3 b R (xup (xup (xup T2 16 (T2 16 - 1)) 13 (T2 13 - 1)) 8 (T2 8 + 1)) T3 g2 g3 l2 l3) : (∃ e3, CLI b R T T3 g g3 l l3 e3) ∧ T1 8 < T3 8 := by
  have hx := h.s1 hq hc hi hs
  obtain ⟨h1, h2, h3, h4, h5, h6, h7⟩ := h
  have hok := h1.ok
  have hi' : ins9 (OL R T1) = true := hi
  have hsk := sk_in (b := b) hok.2.2
  rw [hq] at hsk
  have e1' := h2.1 1 (by omega)
  have htw := tw_no (b := b) (n := T1 1) (q := q) hok.1 (by omega) (by omega)
  obtain ⟨s1, s2, s3, s4, s5, s6⟩ := hs
  obtain ⟨u1, u2, u3, u4, u5, u6⟩ := hs2
  have e1 : T2 1 = T1 1 := s1.1 1 (by omega)
  have e11 : T2 11 = T1 11 := s1.1 11 (by omega)
  have e11' := h2.1 11 (by omega)
  have e8 : T2 8 = q := s2.1
  have e12 : T2 12 = T1 12 := s2.2
  obtain ⟨hE, -, hQ⟩ := q5end (b := b) (n := T1 1) (p := T1 8) (k := T1 12) (S := []) (M := []) h1.2.2.2.1 h6
  have s4' : OL R T2 = srst 1 (OL R T1) := s4
  rcases hE with ⟨_, r⟩ | ⟨t, t1, t2, t3, t4⟩
  · rw [hi'] at r; exact absurd r (by decide)
  · have s4t := s4'
    rw [t1] at s4t
    have h16 : 0 < T2 16 := by
      have hl := OL_len (R := R) (T := T2)
      rw [s4t] at hl
      have : t.length + 1 = (T2 16).toNat := hl
      omega
    have hp := OL_pop (R := R) (T1 := xup (xup (xup T2 16 (T2 16 - 1)) 13 (T2 13 - 1)) 8 (T2 8 + 1)) h16 rfl
    rw [s4t] at hp
    have hp2 : t = OL R (xup (xup (xup T2 16 (T2 16 - 1)) 13 (T2 13 - 1)) 8 (T2 8 + 1)) := (List.cons.inj hp).2
    rw [← hp2] at u4 u5 u6
    have w1 : WR T1 g1 g2 l1 l2 (spop 1 (OL R T1)) := ⟨s5, s6⟩
    have w2 : WR T2 g2 g3 l2 l3 (spop 3 t) := ⟨u5, u6⟩
    have w3 : WR T g g3 l l3 ((e ++ spop 1 (OL R T1)) ++ spop 3 t) := (h5.tr w1 e11').tr w2 (by omega)
    have e8' : T3 8 = q + 1 := by rw [u2.1]; show T2 8 + 1 = q + 1; omega
    have e12' : T3 12 = T1 12 := by rw [u2.2]; exact e12
    refine ⟨⟨_, u3, ⟨fun j hj => ?_, fun j hj => ?_, fun j hj => ?_⟩, by omega, by omega, w3, by rw [u4]; exact srst3_hd _, fun E S M => ?_⟩, by omega⟩
    · rw [u1.1 j hj, xup_ne _ _ (by omega), xup_ne _ _ (by omega), xup_ne _ _ (by omega), s1.1 j hj, xup_ne _ _ (by omega)]; exact h2.1 j hj
    · have a1 := u1.2.1 j (by show j < 400 * T2 11 ∨ 400 * T2 11 + 400 ≤ j; omega)
      have a2 := s1.2.1 j (by show j < 400 * T1 11 ∨ 400 * T1 11 + 400 ≤ j; omega)
      rw [a1, a2]; exact h2.2.1 j hj
    · have a1 := u1.2.2 j (by show ¬ j = T2 11; omega)
      have a2 := s1.2.2 j (by show ¬ j = T1 11; omega)
      rw [a1, a2]; exact h2.2.2 j hj
    · refine (h7 E S M).tr ?_
      rw [← e1', e8', e12', u4]
      obtain ⟨-, -, hQ2⟩ := q5end (b := b) (n := T1 1) (p := T1 8) (k := T1 12) (S := S) (M := M) h1.2.2.2.1 h6
      have hq7 := (hQ2 (E ++ e)).2 (by rw [hq]; omega) (by rw [hq]; omega)
      rw [hq, t1] at hq7
      refine hq7.tr ((q7b hc).tr ((q5t _ _).tr ?_))
      rw [List.append_assoc, List.append_assoc, List.append_assoc]
      exact Q.rfl_
end
set_option maxRecDepth 8000 in
theorem sg_173_0_r {d : Nat} {I : XI} {L : XL} {D : GD} {post : XQ}   (h : xR d 173 es_173 2 [xr (some 101)] [xi (3 : Int), xr (some 101)] I L (gG D) 0 0 post) : xR d 173 es_173 0 [xr (some 101)] [] I L (gG D) 0 0 post := xW_R (fun k => Nat.beq k 2 || Nat.beq k 3 || Nat.beq k 4 || Nat.beq k 8 || Nat.beq k 12 || Nat.beq k 33) 2 _ _ _ _ _ _ _ _ _ _ _ _ h
set_option maxRecDepth 8000 in
theorem w_173_r {d : Nat} {I : XI} {L : XL} {D : GD} {post : XQ}    (hd : 2 ≤ d) (h : ((RT (I 102) (I 101) (I 104) (I 108) ∧ (1 ≤ (3 : Int) ∧ (3 : Int) ≤ 3)) ∧ (∀ (e4756 : Int → Int) (e4757 : Int → Int) (e4758 : Int → Int), (STP (3 : Int) (I 102) (I 108) (I 101) e4756 (I 103) e4757 (I 104) e4758 → xR d 173 es_173 3 [xr (some 101)] [] (xsc (xsc (xsc I 101 e4756) 103 e4757) 104 e4758) L (gG D) 0 0 post)))) : xR d 173 es_173 0 [xr (some 101)] [] I L (gG D) 0 0 post := sg_173_0_r  ((xR_cQ rfl rfl rfl (c_166_r h.1) (by omega) (fun _ _ _ _ hx4759 => by obtain ⟨e4756, e4757, e4758, hp4760, rfl, rfl, rfl, rfl⟩ := hx4759; exact (h.2 e4756 e4757 e4758 hp4760))))
set_option maxRecDepth 8000 in
theorem sg_173_3_r {d : Nat} {I : XI} {L : XL} {D : GD} {post : XQ}   (h : xR d 173 es_173 4 [xr (some 101)] [xr (some 101)] I L (gG D) 0 0 post) : xR d 173 es_173 3 [xr (some 101)] [] I L (gG D) 0 0 post := xW_R (fun k => Nat.beq k 2 || Nat.beq k 3 || Nat.beq k 4 || Nat.beq k 8 || Nat.beq k 12 || Nat.beq k 33) 1 _ _ _ _ _ _ _ _ _ _ _ _ h
set_option maxRecDepth 8000 in
theorem sg_173_5_r {d : Nat} {I : XI} {L : XL} {D : GD} {post : XQ}  {w0 : Int} (h : (((-2147483648 ≤ w0 ∧ w0 ≤ 2147483647) ∧ (-2147483648 ≤ (93 : Int) ∧ (93 : Int) ≤ 2147483647)) ∧ ((¬ w0 = (93 : Int) → post none I L (gG D)) ∧ (w0 = (93 : Int) → xR d 173 es_173 8 [xr (some 101)] [xr (some 101)] I L (gG D) 0 0 post)))) : xR d 173 es_173 5 [xr (some 101)] [xi w0] I L (gG D) 0 0 post := xW_R (fun k => Nat.beq k 2 || Nat.beq k 3 || Nat.beq k 4 || Nat.beq k 8 || Nat.beq k 12 || Nat.beq k 33) 3 _ _ _ _ _ _ _ _ _ _ _ _ h
set_option maxRecDepth 8000 in
theorem sg_173_9_r {d : Nat} {I : XI} {L : XL} {D : GD} {post : XQ}  {w0 : Int} (h : ((-2147483648 ≤ w0 ∧ w0 ≤ 2147483647) ∧ ((w0 = 0 → post none I L (gG D)) ∧ (¬ w0 = 0 → xR d 173 es_173 12 [xr (some 101)] [xi (1 : Int), xr (some 101)] I L (gG D) 0 0 post)))) : xR d 173 es_173 9 [xr (some 101)] [xi w0] I L (gG D) 0 0 post := xW_R (fun k => Nat.beq k 2 || Nat.beq k 3 || Nat.beq k 4 || Nat.beq k 8 || Nat.beq k 12 || Nat.beq k 33) 3 _ _ _ _ _ _ _ _ _ _ _ _ h
set_option maxRecDepth 8000 in
theorem sg_173_13_r {d : Nat} {I : XI} {L : XL} {D : GD} {post : XQ}   (h : xR d 173 es_173 33 [xr (some 101)] [xi (3 : Int), xr (some 101)] (xwr (xwr (xwr I 101 (16 : Int) ((I 101 (16 : Int)) - (1 : Int))) 101 (13 : Int) ((I 101 (13 : Int)) - (1 : Int))) 101 (8 : Int) ((I 101 (8 : Int)) + (1 : Int))) L (gG D) 0 0 post) : xR d 173 es_173 13 [xr (some 101)] [] I L (gG D) 0 0 post := xW_R (fun k => Nat.beq k 2 || Nat.beq k 3 || Nat.beq k 4 || Nat.beq k 8 || Nat.beq k 12 || Nat.beq k 33) 20 _ _ _ _ _ _ _ _ _ _ _ _ h
set_option maxRecDepth 8000 in
theorem sg_173_34_r {d : Nat} {I : XI} {L : XL} {D : GD} {post : XQ}   (h : xR d 173 es_173 3 [xr (some 101)] [] I L (gG D) 0 0 post) : xR d 173 es_173 34 [xr (some 101)] [] I L (gG D) 0 0 post := xW_R (fun k => Nat.beq k 2 || Nat.beq k 3 || Nat.beq k 4 || Nat.beq k 8 || Nat.beq k 12 || Nat.beq k 33) 1 _ _ _ _ _ _ _ _ _ _ _ _ h
set_option maxRecDepth 8000 in
theorem b_173_r {d : Nat} {I : XI} {L : XL} {D : GD} {post : XQ} {T1 g1 l1 : Int → Int}   (hd : 2 ≤ d) (h : ((TPO (I 102) (T1 (1 : Int)) ∧ (0 ≤ T1 (8 : Int) ∧ T1 (8 : Int) ≤ T1 (1 : Int))) ∧ (((-2147483648 ≤ (tc (I 102) (T1 (1 : Int)) (sk (I 102) (T1 (1 : Int)) (T1 (8 : Int)))) ∧ (tc (I 102) (T1 (1 : Int)) (sk (I 102) (T1 (1 : Int)) (T1 (8 : Int)))) ≤ 2147483647)) ∧ ((¬ (tc (I 102) (T1 (1 : Int)) (sk (I 102) (T1 (1 : Int)) (T1 (8 : Int)))) = (93 : Int) → post none (xsc (xsc (xsc I 101 (xup T1 (8 : Int) (sk (I 102) (T1 (1 : Int)) (T1 (8 : Int))))) 103 g1) 104 l1) L (gG D)) ∧ ((tc (I 102) (T1 (1 : Int)) (sk (I 102) (T1 (1 : Int)) (T1 (8 : Int)))) = (93 : Int) → (RT (I 102) (xup T1 (8 : Int) (sk (I 102) (T1 (1 : Int)) (T1 (8 : Int)))) l1 (I 108) ∧ (((¬ (ins9 (OL (I 108) (xup T1 (8 : Int) (sk (I 102) (T1 (1 : Int)) (T1 (8 : Int))))) = true) → post none (xsc (xsc (xsc I 101 (xup T1 (8 : Int) (sk (I 102) (T1 (1 : Int)) (T1 (8 : Int))))) 103 g1) 104 l1) L (gG D)) ∧ (ins9 (OL (I 108) (xup T1 (8 : Int) (sk (I 102) (T1 (1 : Int)) (T1 (8 : Int))))) = true → ((RT (I 102) (xup T1 (8 : Int) (sk (I 102) (T1 (1 : Int)) (T1 (8 : Int)))) l1 (I 108) ∧ (1 ≤ (1 : Int) ∧ (1 : Int) ≤ 3)) ∧ (∀ (e4761 : Int → Int) (e4762 : Int → Int) (e4763 : Int → Int), (STP (1 : Int) (I 102) (I 108) (xup T1 (8 : Int) (sk (I 102) (T1 (1 : Int)) (T1 (8 : Int)))) e4761 g1 e4762 l1 e4763 → ((RT (I 102) (xup (xup (xup e4761 (16 : Int) ((e4761 (16 : Int)) - (1 : Int))) (13 : Int) ((e4761 (13 : Int)) - (1 : Int))) (8 : Int) ((e4761 (8 : Int)) + (1 : Int))) e4763 (I 108) ∧ (1 ≤ (3 : Int) ∧ (3 : Int) ≤ 3)) ∧ (∀ (e4764 : Int → Int) (e4765 : Int → Int) (e4766 : Int → Int), (STP (3 : Int) (I 102) (I 108) (xup (xup (xup e4761 (16 : Int) ((e4761 (16 : Int)) - (1 : Int))) (13 : Int) ((e4761 (13 : Int)) - (1 : Int))) (8 : Int) ((e4761 (8 : Int)) + (1 : Int))) e4764 e4762 e4765 e4763 e4766 → xR d 173 es_173 3 [xr (some 101)] [] (xsc (xsc (xsc I 101 e4764) 103 e4765) 104 e4766) L (gG D) 0 0 post))))))))))))))) : xR d 173 es_173 3 [xr (some 101)] [] (xsc (xsc (xsc I 101 T1) 103 g1) 104 l1) L (gG D) 0 0 post := sg_173_3_r  ((xR_cF rfl rfl rfl (c_154 h.1) (by omega) (sg_173_5_r  ⟨⟨h.2.1, (by decide)⟩, ⟨fun q4769 => (xpost (h.2.2.1 q4769) (funext fun i => (xpt rfl (fun h104_ => (xpt rfl (fun h103_ => (xpt rfl (fun h101_ => (by simp only [xsc_ne _ _ h101_, xwr_ne _ _ _ h101_, xsc_ne _ _ h103_, xwr_ne _ _ _ h103_, xsc_ne _ _ h104_, xwr_ne _ _ _ h104_])))))))) rfl), fun q4770 => (xR_cF rfl rfl rfl (c_172_r (h.2.2.2 q4770).1) (by omega) (sg_173_9_r  ⟨(xb_rg _), ⟨fun q4767 => (xpost ((h.2.2.2 q4770).2.1 (xb_0 q4767)) (funext fun i => (xpt rfl (fun h104_ => (xpt rfl (fun h103_ => (xpt rfl (fun h101_ => (by simp only [xsc_ne _ _ h101_, xwr_ne _ _ _ h101_, xsc_ne _ _ h103_, xwr_ne _ _ _ h103_, xsc_ne _ _ h104_, xwr_ne _ _ _ h104_])))))))) rfl), fun q4768 => (xR_cQ rfl rfl rfl (c_166_r ((h.2.2.2 q4770).2.2 (xb_n0 q4768)).1) (by omega) (fun _ _ _ _ hx4771 => by obtain ⟨e4761, e4762, e4763, hp4772, rfl, rfl, rfl, rfl⟩ := hx4771; exact (sg_173_13_r  (xR_cQ rfl rfl rfl (c_166_r (((h.2.2.2 q4770).2.2 (xb_n0 q4768)).2 e4761 e4762 e4763 hp4772).1) (by omega) (fun _ _ _ _ hx4773 => by obtain ⟨e4764, e4765, e4766, hp4774, rfl, rfl, rfl, rfl⟩ := hx4773; exact (sg_173_34_r  (xR_memc ((((h.2.2.2 q4770).2.2 (xb_n0 q4768)).2 e4761 e4762 e4763 hp4772).2 e4764 e4765 e4766 hp4774) (funext fun i => (xpt rfl (fun h104_ => (xpt rfl (fun h103_ => (xpt rfl (fun h101_ => (by simp only [xsc_ne _ _ h101_, xwr_ne _ _ _ h101_, xsc_ne _ _ h103_, xwr_ne _ _ _ h103_, xsc_ne _ _ h104_, xwr_ne _ _ _ h104_])))))))) rfl)))))))⟩⟩))⟩⟩)))
theorem lp_173 {I : XI} {L : XL} {D : GD} {d : Nat} {post : XQ} (hd : 2 ≤ d) (hpo : ∀ (T9 g9 l9 : Int → Int) (e9 : List Int), CLO (I 102) (I 108) (I 101) T9 (I 103) g9 (I 104) l9 e9 → post none (xsc (xsc (xsc I 101 T9) 103 g9) 104 l9) L (gG D)) : ∀ (r : Nat) (T1 g1 l1 : Int → Int) (e : List Int), (I 101 1 - T1 8).toNat < r → CLI (I 102) (I 108) (I 101) T1 (I 103) g1 (I 104) l1 e → xR d 173 es_173 3 [xr (some 101)] [] (xsc (xsc (xsc I 101 T1) 103 g1) 104 l1) L (gG D) 0 0 post := by
  intro r
  induction r with
  | zero => intro T1 g1 l1 e hr hI; omega
  | succ r ih =>
    intro T1 g1 l1 e hr hI
    have hR := hI.1
    have hok := hR.ok
    have h1e := hI.2.1.1 1 (by omega)
    have hs := sk_in (b := I 102) hok.2.2
    have hss := sk_sk (b := I 102) hok.2.2
    obtain ⟨q, hq⟩ : ∃ q, sk (I 102) (T1 1) (T1 8) = q := ⟨_, rfl⟩
    rw [hq] at hs hss
    have hrg := tc_rg hok.1 q
    have hmv := hR.mv hs.1 hs.2
    refine b_173_r (by omega) ?_
    simp only [hq]
    refine ⟨hok, ⟨by omega, by omega⟩, fun c => hpo _ _ _ _ (hI.en hq (Or.inl c)), fun c => ⟨hmv, fun c2 => hpo _ _ _ _ (hI.en hq (Or.inr c2)), fun c2 => ⟨⟨hmv, ⟨by decide, by decide⟩⟩, fun T2 g2 l2 hs2 => ?_⟩⟩⟩
    have hx := hI.s1 hq c c2 hs2
    refine ⟨⟨hx.1, ⟨by decide, by decide⟩⟩, fun T3 g3 l3 hs3 => ?_⟩
    obtain ⟨⟨e3, hz⟩, hlt⟩ := hI.s2 hq c c2 hs2 hs3
    exact ih _ _ _ e3 (by omega) hz
theorem c_173_r {I : XI} {L : XL} {D : GD}    (h : RT (I 102) (I 101) (I 104) (I 108)) : xM 2 173 [xr (some 101)] I L (gG D) (0, 0) (fun r2 I2 L2 G2 => ∃ (T9 : Int → Int) (g9 : Int → Int) (l9 : Int → Int) (e9 : List Int), CLO (I 102) (I 108) (I 101) T9 (I 103) g9 (I 104) l9 e9 ∧ r2 = none ∧ I2 = (xsc (xsc (xsc I 101 T9) 103 g9) 104 l9) ∧ L2 = L ∧ G2 = (gG D)) := by
  intro d hd
  refine w_173_r (by omega) ?_
  refine ⟨⟨h, ⟨by decide, by decide⟩⟩, fun T2 g2 l2 hs => ?_⟩
  exact lp_173 (by omega) (fun _ _ _ _ hz => ⟨_, _, _, _, hz, rfl, rfl, rfl, rfl⟩) _ _ _ _ _ (Nat.lt_succ_self _) (CLI.st hs)
