/-! pence -/
def psumr (a : Int → Int) : Nat → Int
  | 0 => 0
  | n + 1 => psumr a n + a (21 + (n : Int))
def ppn (w : Int → Int) (mu al ow gu : Int) : Nat → Int × Int
  | 0 => (mu, 0)
  | k + 1 => ((ppn w mu al ow gu k).1 - Int.tdiv (mu * w (k : Int)) al, (ppn w mu al ow gu k).2 + (if Int.tmod ow al < Int.tmod (mu * w (k : Int)) al ∨ (Int.tmod (mu * w (k : Int)) al = Int.tmod ow al ∧ (k : Int) < gu) then 1 else 0))
def qpn (w : Int → Int) (mu al gu : Int) (n : Nat) : Int := Int.tdiv (mu * w gu) al + (if (ppn w mu al (mu * w gu) gu n).2 < (ppn w mu al (mu * w gu) gu n).1 then 1 else 0)
def qpence (a : Int → Int) (mu gu : Int) : Int := if psumr a (a 4).toNat = 0 then qpn (fun _ => 1) mu (a 4) gu (a 4).toNat else qpn (fun g => a (21 + g)) mu (psumr a (a 4).toNat) gu (a 4).toNat
theorem pdue {mu w : Int} (h0 : 0 ≤ mu) (h1 : mu ≤ 9999) (w0 : 0 ≤ w) (w1 : w ≤ 99) : 0 ≤ mu * w ∧ mu * w ≤ 989901 := ⟨Int.mul_nonneg h0 w0, Int.le_trans (Int.mul_le_mul h1 w1 w0 (by omega)) (by decide)⟩
theorem ptd {x al : Int} (h0 : 0 ≤ x) (h1 : 0 < al) : 0 ≤ Int.tdiv x al ∧ Int.tdiv x al ≤ x := ⟨Int.tdiv_nonneg h0 (by omega), by
  rw [Int.tdiv_eq_ediv_of_nonneg h0]
  exact Int.ediv_le_self _ h0⟩
theorem ppn_rg {w : Int → Int} {mu al ow gu : Int} (hm : 0 ≤ mu ∧ mu ≤ 9999) (ha : 0 < al) : ∀ k : Nat, k ≤ 5 → (∀ j : Nat, j < k → 0 ≤ w (j : Int) ∧ w (j : Int) ≤ 99) → ((ppn w mu al ow gu k).1 ≤ 9999 ∧ - 989901 * (k : Int) ≤ (ppn w mu al ow gu k).1) ∧ (0 ≤ (ppn w mu al ow gu k).2 ∧ (ppn w mu al ow gu k).2 ≤ (k : Int)) := by
  intro k
  induction k with
  | zero => intro _ _; show (mu ≤ 9999 ∧ - 989901 * ((0 : Nat) : Int) ≤ mu) ∧ ((0 : Int) ≤ 0 ∧ (0 : Int) ≤ ((0 : Nat) : Int)); omega
  | succ k ih =>
    intro hk h
    have h1 := ih (by omega) (fun j hj => h j (by omega))
    have h2 := h k (by omega)
    have h3 := pdue hm.1 hm.2 h2.1 h2.2
    have h4 := ptd h3.1 ha
    unfold ppn
    refine ⟨?_, ?_⟩
    · simp only
      omega
    · simp only
      split <;> omega
theorem psumr_rg {a : Int → Int} (h : SO a) : ∀ n : Nat, n ≤ 5 → 0 ≤ psumr a n ∧ psumr a n ≤ 99 * (n : Int) := by
  intro n
  induction n with
  | zero => intro _; show (0 : Int) ≤ 0 ∧ (0 : Int) ≤ 99 * ((0 : Nat) : Int); omega
  | succ n ih =>
    intro hn
    have h1 := ih (by omega)
    have h2 := h.r (g := (n : Int)) (by omega) (by omega)
    unfold psumr
    omega
set_option maxRecDepth 8000 in
theorem sg_247_0 {d : Nat} {I : XI} {L : XL} {D : GD} {post : XQ}  {u1 : Int} {u2 : Int} (h : xR d 247 es_247 2 [xr (some 101), xi u1, xi u2, xt 0, xt 0, xt 0, xt 0, xt 0, xt 0, xt 0] [xi u2, xr (some 101)] I L (gG D) 0 0 post) : xR d 247 es_247 0 [xr (some 101), xi u1, xi u2, xt 0, xt 0, xt 0, xt 0, xt 0, xt 0, xt 0] [] I L (gG D) 0 0 post := xW_R (fun k => Nat.beq k 2 || Nat.beq k 8 || Nat.beq k 16 || Nat.beq k 65) 2 _ _ _ _ _ _ _ _ _ _ _ _ h
set_option maxRecDepth 8000 in
theorem sg_247_3 {d : Nat} {I : XI} {L : XL} {D : GD} {post : XQ}  {u1 : Int} {u2 : Int} {w0 : Int} (h : ((-2147483648 ≤ w0 ∧ w0 ≤ 2147483647) ∧ ((w0 = 0 → post (some (xi (-1 : Int))) I L (gG D)) ∧ (¬ w0 = 0 → ((-2147483648 ≤ u1 ∧ u1 ≤ 2147483647) ∧ xR d 247 es_247 8 [xr (some 101), xi u1, xi u2, xt 0, xt 0, xt 0, xt 0, xt 0, xt 0, xt 0] [xl (Int64.ofInt 9999), xl (0 : Int64), xl (Int64.ofInt u1)] I L (gG D) 0 0 post))))) : xR d 247 es_247 3 [xr (some 101), xi u1, xi u2, xt 0, xt 0, xt 0, xt 0, xt 0, xt 0, xt 0] [xi w0] I L (gG D) 0 0 post := xW_R (fun k => Nat.beq k 2 || Nat.beq k 8 || Nat.beq k 16 || Nat.beq k 65) 5 _ _ _ _ _ _ _ _ _ _ _ _ h
set_option maxRecDepth 8000 in
theorem sg_247_9 {d : Nat} {I : XI} {L : XL} {D : GD} {post : XQ}  {u1 : Int} {u2 : Int} {w0 : Int} (h : ((-2147483648 ≤ w0 ∧ w0 ≤ 2147483647) ∧ ((¬ w0 = 0 → xR d 247 es_247 16 [xr (some 101), xi u1, xi u2, xi (0 : Int), xi (0 : Int), xt 0, xt 0, xt 0, xt 0, xt 0] [] I L (gG D) 0 0 post) ∧ (w0 = 0 → post (some (xi (-1 : Int))) I L (gG D))))) : xR d 247 es_247 9 [xr (some 101), xi u1, xi u2, xt 0, xt 0, xt 0, xt 0, xt 0, xt 0, xt 0] [xi w0] I L (gG D) 0 0 post := xW_R (fun k => Nat.beq k 2 || Nat.beq k 8 || Nat.beq k 16 || Nat.beq k 65) 5 _ _ _ _ _ _ _ _ _ _ _ _ h
set_option maxRecDepth 8000 in
theorem w_247 {d : Nat} {I : XI} {L : XL} {D : GD} {post : XQ}   {mu : Int} {gu : Int} (hd : 1 ≤ d) (h : ((SO (I 111) ∧ (-2147483648 ≤ gu ∧ gu ≤ 2147483647)) ∧ (((¬ (0 ≤ gu ∧ gu < I 111 (4 : Int)) → post (some (xi (-1 : Int))) I L (gG D)) ∧ (0 ≤ gu ∧ gu < I 111 (4 : Int) → (((-2147483648 ≤ mu ∧ mu ≤ 2147483647)) ∧ (((-2147483648 ≤ mu ∧ mu ≤ 2147483647) ∧ (-2147483648 ≤ (0 : Int) ∧ (0 : Int) ≤ 2147483647) ∧ (-2147483648 ≤ (9999 : Int) ∧ (9999 : Int) ≤ 2147483647)) ∧ ((((0 : Int) ≤ mu ∧ mu ≤ (9999 : Int) → xR d 247 es_247 16 [xr (some 101), xi mu, xi gu, xi (0 : Int), xi (0 : Int), xt 0, xt 0, xt 0, xt 0, xt 0] [] I L (gG D) 0 0 post) ∧ (¬ ((0 : Int) ≤ mu ∧ mu ≤ (9999 : Int)) → post (some (xi (-1 : Int))) I L (gG D))))))))))) : xR d 247 es_247 0 [xr (some 101), xi mu, xi gu, xt 0, xt 0, xt 0, xt 0, xt 0, xt 0, xt 0] [] I L (gG D) 0 0 post := sg_247_0  ((xR_cF rfl rfl rfl (c_194 h.1) (by omega) (sg_247_3  ⟨(xb_rg _), ⟨fun q491 => (h.2.1 (xb_0 q491)), fun q492 => ⟨(h.2.2 (xb_n0 q492)).1, (xR_cF rfl rfl rfl (c_147 (h.2.2 (xb_n0 q492)).2.1) (by omega) (sg_247_9  ⟨(xb_rg _), ⟨fun q489 => ((h.2.2 (xb_n0 q492)).2.2.1 (xb_n0 q489)), fun q490 => ((h.2.2 (xb_n0 q492)).2.2.2 (xb_0 q490))⟩⟩))⟩⟩⟩)))
set_option maxRecDepth 8000 in
theorem sg_247_16 {d : Nat} {I : XI} {L : XL} {D : GD} {post : XQ}  {u1 : Int} {u2 : Int} {u3 : Int} {u4 : Int} {u5 : XV} {u6 : XV} {u7 : XV} {u8 : XV} {u9 : XV} (h : ((0 ≤ (4 : Int) ∧ (4 : Int) < (102 : Int)) ∧ (((-2147483648 ≤ u4 ∧ u4 ≤ 2147483647) ∧ (-2147483648 ≤ (I 111 (4 : Int)) ∧ (I 111 (4 : Int)) ≤ 2147483647)) ∧ (((I 111 (4 : Int)) ≤ u4 → ((-2147483648 ≤ u3 ∧ u3 ≤ 2147483647) ∧ ((¬ u3 = 0 → ((-2147483648 ≤ (0 : Int) ∧ (0 : Int) ≤ 2147483647) ∧ (((0 : Int) = 0 → ((-2147483648 ≤ (0 : Int) ∧ (0 : Int) ≤ 2147483647) ∧ (((0 : Int) = 0 → ((0 ≤ ((21 : Int) + u2) ∧ ((21 : Int) + u2) < (102 : Int)) ∧ xR d 247 es_247 65 [xr (some 101), xi u1, xi u2, xi u3, xi (0 : Int), xi (u1 * (I 111 ((21 : Int) + u2))), xi u1, xi (0 : Int), xi (0 : Int), u9] [] I L (gG D) 0 0 post)) ∧ (¬ (0 : Int) = 0 → xR d 247 es_247 65 [xr (some 101), xi u1, xi u2, xi u3, xi (0 : Int), xi (u1 * (1 : Int)), xi u1, xi (0 : Int), xi (0 : Int), u9] [] I L (gG D) 0 0 post)))) ∧ (¬ (0 : Int) = 0 → ((0 ≤ (4 : Int) ∧ (4 : Int) < (102 : Int)) ∧ ((-2147483648 ≤ (0 : Int) ∧ (0 : Int) ≤ 2147483647) ∧ (((0 : Int) = 0 → ((0 ≤ ((21 : Int) + u2) ∧ ((21 : Int) + u2) < (102 : Int)) ∧ xR d 247 es_247 65 [xr (some 101), xi u1, xi u2, xi (I 111 (4 : Int)), xi (0 : Int), xi (u1 * (I 111 ((21 : Int) + u2))), xi u1, xi (0 : Int), xi (0 : Int), u9] [] I L (gG D) 0 0 post)) ∧ (¬ (0 : Int) = 0 → xR d 247 es_247 65 [xr (some 101), xi u1, xi u2, xi (I 111 (4 : Int)), xi (0 : Int), xi (u1 * (1 : Int)), xi u1, xi (0 : Int), xi (0 : Int), u9] [] I L (gG D) 0 0 post)))))))) ∧ (u3 = 0 → ((-2147483648 ≤ (1 : Int) ∧ (1 : Int) ≤ 2147483647) ∧ (((1 : Int) = 0 → ((-2147483648 ≤ (1 : Int) ∧ (1 : Int) ≤ 2147483647) ∧ (((1 : Int) = 0 → ((0 ≤ ((21 : Int) + u2) ∧ ((21 : Int) + u2) < (102 : Int)) ∧ xR d 247 es_247 65 [xr (some 101), xi u1, xi u2, xi u3, xi (1 : Int), xi (u1 * (I 111 ((21 : Int) + u2))), xi u1, xi (0 : Int), xi (0 : Int), u9] [] I L (gG D) 0 0 post)) ∧ (¬ (1 : Int) = 0 → xR d 247 es_247 65 [xr (some 101), xi u1, xi u2, xi u3, xi (1 : Int), xi (u1 * (1 : Int)), xi u1, xi (0 : Int), xi (0 : Int), u9] [] I L (gG D) 0 0 post)))) ∧ (¬ (1 : Int) = 0 → ((0 ≤ (4 : Int) ∧ (4 : Int) < (102 : Int)) ∧ ((-2147483648 ≤ (1 : Int) ∧ (1 : Int) ≤ 2147483647) ∧ (((1 : Int) = 0 → ((0 ≤ ((21 : Int) + u2) ∧ ((21 : Int) + u2) < (102 : Int)) ∧ xR d 247 es_247 65 [xr (some 101), xi u1, xi u2, xi (I 111 (4 : Int)), xi (1 : Int), xi (u1 * (I 111 ((21 : Int) + u2))), xi u1, xi (0 : Int), xi (0 : Int), u9] [] I L (gG D) 0 0 post)) ∧ (¬ (1 : Int) = 0 → xR d 247 es_247 65 [xr (some 101), xi u1, xi u2, xi (I 111 (4 : Int)), xi (1 : Int), xi (u1 * (1 : Int)), xi u1, xi (0 : Int), xi (0 : Int), u9] [] I L (gG D) 0 0 post))))))))))) ∧ (u4 < (I 111 (4 : Int)) → ((0 ≤ ((21 : Int) + u4) ∧ ((21 : Int) + u4) < (102 : Int)) ∧ xR d 247 es_247 16 [xr (some 101), xi u1, xi u2, xi (u3 + (I 111 ((21 : Int) + u4))), xi (u4 + (1 : Int)), u5, u6, u7, u8, u9] [] I L (gG D) 0 0 post)))))) : xR d 247 es_247 16 [xr (some 101), xi u1, xi u2, xi u3, xi u4, u5, u6, u7, u8, u9] [] I L (gG D) 0 0 post := xW_R (fun k => Nat.beq k 2 || Nat.beq k 8 || Nat.beq k 16 || Nat.beq k 65) 35 _ _ _ _ _ _ _ _ _ _ _ _ h
set_option maxRecDepth 8000 in
theorem b_247a {d : Nat} {I : XI} {L : XL} {D : GD} {post : XQ}   {mu : Int} {gu : Int} {al : Int} {u : Int} {x5 : XV} {x6 : XV} {x7 : XV} {x8 : XV} {x9 : XV} (hd : 0 ≤ d) (h : (((-2147483648 ≤ u ∧ u ≤ 2147483647) ∧ (-2147483648 ≤ (I 111 (4 : Int)) ∧ (I 111 (4 : Int)) ≤ 2147483647)) ∧ (((I 111 (4 : Int)) ≤ u → (((-2147483648 ≤ al ∧ al ≤ 2147483647)) ∧ ((¬ al = 0 → (((0 ≤ ((21 : Int) + gu) ∧ ((21 : Int) + gu) < (102 : Int))) ∧ xR d 247 es_247 65 [xr (some 101), xi mu, xi gu, xi al, xi (0 : Int), xi (mu * (I 111 ((21 : Int) + gu))), xi mu, xi (0 : Int), xi (0 : Int), x9] [] I L (gG D) 0 0 post)) ∧ (al = 0 → xR d 247 es_247 65 [xr (some 101), xi mu, xi gu, xi (I 111 (4 : Int)), xi (1 : Int), xi (mu * (1 : Int)), xi mu, xi (0 : Int), xi (0 : Int), x9] [] I L (gG D) 0 0 post)))) ∧ (u < (I 111 (4 : Int)) → (((0 ≤ ((21 : Int) + u) ∧ ((21 : Int) + u) < (102 : Int))) ∧ xR d 247 es_247 16 [xr (some 101), xi mu, xi gu, xi (al + (I 111 ((21 : Int) + u))), xi (u + (1 : Int)), x5, x6, x7, x8, x9] [] I L (gG D) 0 0 post))))) : xR d 247 es_247 16 [xr (some 101), xi mu, xi gu, xi al, xi u, x5, x6, x7, x8, x9] [] I L (gG D) 0 0 post := sg_247_16  (⟨(by decide), ⟨⟨h.1.1, h.1.2⟩, ⟨fun q499 => ⟨(h.2.1 q499).1, ⟨fun q497 => ⟨(by decide), ⟨fun _ => ⟨(by decide), ⟨fun _ => ⟨((h.2.1 q499).2.1 q497).1, ((h.2.1 q499).2.1 q497).2⟩, fun q493 => absurd q493 (by decide)⟩⟩, fun q494 => absurd q494 (by decide)⟩⟩, fun q498 => ⟨(by decide), ⟨fun q496 => absurd q496 (by decide), fun _ => ⟨(by decide), ⟨(by decide), ⟨fun q495 => absurd q495 (by decide), fun _ => ((h.2.1 q499).2.2 q498)⟩⟩⟩⟩⟩⟩⟩, fun q500 => ⟨(h.2.2 q500).1, (h.2.2 q500).2⟩⟩⟩⟩)
set_option maxRecDepth 8000 in
theorem sg_247_65 {d : Nat} {I : XI} {L : XL} {D : GD} {post : XQ}  {u1 : Int} {u2 : Int} {u3 : Int} {u4 : Int} {u5 : Int} {u6 : Int} {u7 : Int} {u8 : Int} {u9 : XV} (h : ((0 ≤ (4 : Int) ∧ (4 : Int) < (102 : Int)) ∧ (((-2147483648 ≤ u8 ∧ u8 ≤ 2147483647) ∧ (-2147483648 ≤ (I 111 (4 : Int)) ∧ (I 111 (4 : Int)) ≤ 2147483647)) ∧ (((I 111 (4 : Int)) ≤ u8 → (((-2147483648 ≤ u5 ∧ u5 ≤ 2147483647) ∧ (-2147483648 ≤ u3 ∧ u3 ≤ 2147483647) ∧ ¬ u3 = 0) ∧ (((-2147483648 ≤ u7 ∧ u7 ≤ 2147483647) ∧ (-2147483648 ≤ u6 ∧ u6 ≤ 2147483647)) ∧ ((u6 ≤ u7 → post (some (xi ((Int.tdiv u5 u3) + (0 : Int)))) I L (gG D)) ∧ (u7 < u6 → post (some (xi ((Int.tdiv u5 u3) + (1 : Int)))) I L (gG D)))))) ∧ (u8 < (I 111 (4 : Int)) → ((-2147483648 ≤ u4 ∧ u4 ≤ 2147483647) ∧ ((u4 = 0 → ((0 ≤ ((21 : Int) + u8) ∧ ((21 : Int) + u8) < (102 : Int)) ∧ (((-2147483648 ≤ (u1 * (I 111 ((21 : Int) + u8))) ∧ (u1 * (I 111 ((21 : Int) + u8))) ≤ 2147483647) ∧ (-2147483648 ≤ u3 ∧ u3 ≤ 2147483647) ∧ ¬ u3 = 0) ∧ (((-2147483648 ≤ (u1 * (I 111 ((21 : Int) + u8))) ∧ (u1 * (I 111 ((21 : Int) + u8))) ≤ 2147483647) ∧ (-2147483648 ≤ u3 ∧ u3 ≤ 2147483647) ∧ ¬ u3 = 0) ∧ (((-2147483648 ≤ u5 ∧ u5 ≤ 2147483647) ∧ (-2147483648 ≤ u3 ∧ u3 ≤ 2147483647) ∧ ¬ u3 = 0) ∧ (((-2147483648 ≤ (Int.tmod (u1 * (I 111 ((21 : Int) + u8))) u3) ∧ (Int.tmod (u1 * (I 111 ((21 : Int) + u8))) u3) ≤ 2147483647) ∧ (-2147483648 ≤ (Int.tmod u5 u3) ∧ (Int.tmod u5 u3) ≤ 2147483647)) ∧ (((Int.tmod u5 u3) < (Int.tmod (u1 * (I 111 ((21 : Int) + u8))) u3) → xR d 247 es_247 65 [xr (some 101), xi u1, xi u2, xi u3, xi u4, xi u5, xi (u6 - (Int.tdiv (u1 * (I 111 ((21 : Int) + u8))) u3)), xi (u7 + (1 : Int)), xi (u8 + (1 : Int)), xi (u1 * (I 111 ((21 : Int) + u8)))] [] I L (gG D) 0 0 post) ∧ ((Int.tmod (u1 * (I 111 ((21 : Int) + u8))) u3) ≤ (Int.tmod u5 u3) → (((-2147483648 ≤ (u1 * (I 111 ((21 : Int) + u8))) ∧ (u1 * (I 111 ((21 : Int) + u8))) ≤ 2147483647) ∧ (-2147483648 ≤ u3 ∧ u3 ≤ 2147483647) ∧ ¬ u3 = 0) ∧ (((-2147483648 ≤ u5 ∧ u5 ≤ 2147483647) ∧ (-2147483648 ≤ u3 ∧ u3 ≤ 2147483647) ∧ ¬ u3 = 0) ∧ (((-2147483648 ≤ (Int.tmod (u1 * (I 111 ((21 : Int) + u8))) u3) ∧ (Int.tmod (u1 * (I 111 ((21 : Int) + u8))) u3) ≤ 2147483647) ∧ (-2147483648 ≤ (Int.tmod u5 u3) ∧ (Int.tmod u5 u3) ≤ 2147483647)) ∧ ((¬ (Int.tmod (u1 * (I 111 ((21 : Int) + u8))) u3) = (Int.tmod u5 u3) → xR d 247 es_247 65 [xr (some 101), xi u1, xi u2, xi u3, xi u4, xi u5, xi (u6 - (Int.tdiv (u1 * (I 111 ((21 : Int) + u8))) u3)), xi (u7 + (0 : Int)), xi (u8 + (1 : Int)), xi (u1 * (I 111 ((21 : Int) + u8)))] [] I L (gG D) 0 0 post) ∧ ((Int.tmod (u1 * (I 111 ((21 : Int) + u8))) u3) = (Int.tmod u5 u3) → (((-2147483648 ≤ u8 ∧ u8 ≤ 2147483647) ∧ (-2147483648 ≤ u2 ∧ u2 ≤ 2147483647)) ∧ ((u2 ≤ u8 → xR d 247 es_247 65 [xr (some 101), xi u1, xi u2, xi u3, xi u4, xi u5, xi (u6 - (Int.tdiv (u1 * (I 111 ((21 : Int) + u8))) u3)), xi (u7 + (0 : Int)), xi (u8 + (1 : Int)), xi (u1 * (I 111 ((21 : Int) + u8)))] [] I L (gG D) 0 0 post) ∧ (u8 < u2 → xR d 247 es_247 65 [xr (some 101), xi u1, xi u2, xi u3, xi u4, xi u5, xi (u6 - (Int.tdiv (u1 * (I 111 ((21 : Int) + u8))) u3)), xi (u7 + (1 : Int)), xi (u8 + (1 : Int)), xi (u1 * (I 111 ((21 : Int) + u8)))] [] I L (gG D) 0 0 post)))))))))))))))) ∧ (¬ u4 = 0 → (((-2147483648 ≤ (u1 * (1 : Int)) ∧ (u1 * (1 : Int)) ≤ 2147483647) ∧ (-2147483648 ≤ u3 ∧ u3 ≤ 2147483647) ∧ ¬ u3 = 0) ∧ (((-2147483648 ≤ (u1 * (1 : Int)) ∧ (u1 * (1 : Int)) ≤ 2147483647) ∧ (-2147483648 ≤ u3 ∧ u3 ≤ 2147483647) ∧ ¬ u3 = 0) ∧ (((-2147483648 ≤ u5 ∧ u5 ≤ 2147483647) ∧ (-2147483648 ≤ u3 ∧ u3 ≤ 2147483647) ∧ ¬ u3 = 0) ∧ (((-2147483648 ≤ (Int.tmod (u1 * (1 : Int)) u3) ∧ (Int.tmod (u1 * (1 : Int)) u3) ≤ 2147483647) ∧ (-2147483648 ≤ (Int.tmod u5 u3) ∧ (Int.tmod u5 u3) ≤ 2147483647)) ∧ (((Int.tmod u5 u3) < (Int.tmod (u1 * (1 : Int)) u3) → xR d 247 es_247 65 [xr (some 101), xi u1, xi u2, xi u3, xi u4, xi u5, xi (u6 - (Int.tdiv (u1 * (1 : Int)) u3)), xi (u7 + (1 : Int)), xi (u8 + (1 : Int)), xi (u1 * (1 : Int))] [] I L (gG D) 0 0 post) ∧ ((Int.tmod (u1 * (1 : Int)) u3) ≤ (Int.tmod u5 u3) → (((-2147483648 ≤ (u1 * (1 : Int)) ∧ (u1 * (1 : Int)) ≤ 2147483647) ∧ (-2147483648 ≤ u3 ∧ u3 ≤ 2147483647) ∧ ¬ u3 = 0) ∧ (((-2147483648 ≤ u5 ∧ u5 ≤ 2147483647) ∧ (-2147483648 ≤ u3 ∧ u3 ≤ 2147483647) ∧ ¬ u3 = 0) ∧ (((-2147483648 ≤ (Int.tmod (u1 * (1 : Int)) u3) ∧ (Int.tmod (u1 * (1 : Int)) u3) ≤ 2147483647) ∧ (-2147483648 ≤ (Int.tmod u5 u3) ∧ (Int.tmod u5 u3) ≤ 2147483647)) ∧ ((¬ (Int.tmod (u1 * (1 : Int)) u3) = (Int.tmod u5 u3) → xR d 247 es_247 65 [xr (some 101), xi u1, xi u2, xi u3, xi u4, xi u5, xi (u6 - (Int.tdiv (u1 * (1 : Int)) u3)), xi (u7 + (0 : Int)), xi (u8 + (1 : Int)), xi (u1 * (1 : Int))] [] I L (gG D) 0 0 post) ∧ ((Int.tmod (u1 * (1 : Int)) u3) = (Int.tmod u5 u3) → (((-2147483648 ≤ u8 ∧ u8 ≤ 2147483647) ∧ (-2147483648 ≤ u2 ∧ u2 ≤ 2147483647)) ∧ ((u2 ≤ u8 → xR d 247 es_247 65 [xr (some 101), xi u1, xi u2, xi u3, xi u4, xi u5, xi (u6 - (Int.tdiv (u1 * (1 : Int)) u3)), xi (u7 + (0 : Int)), xi (u8 + (1 : Int)), xi (u1 * (1 : Int))] [] I L (gG D) 0 0 post) ∧ (u8 < u2 → xR d 247 es_247 65 [xr (some 101), xi u1, xi u2, xi u3, xi u4, xi u5, xi (u6 - (Int.tdiv (u1 * (1 : Int)) u3)), xi (u7 + (1 : Int)), xi (u8 + (1 : Int)), xi (u1 * (1 : Int))] [] I L (gG D) 0 0 post)))))))))))))))))))))) : xR d 247 es_247 65 [xr (some 101), xi u1, xi u2, xi u3, xi u4, xi u5, xi u6, xi u7, xi u8, u9] [] I L (gG D) 0 0 post := xW_R (fun k => Nat.beq k 2 || Nat.beq k 8 || Nat.beq k 16 || Nat.beq k 65) 47 _ _ _ _ _ _ _ _ _ _ _ _ h
set_option maxRecDepth 8000 in
theorem b_247 {d : Nat} {I : XI} {L : XL} {D : GD} {post : XQ}   {mu : Int} {gu : Int} {al : Int} {ak : Int} {ow : Int} {re : Int} {bf : Int} {g : Int} {x9 : XV} (hd : 0 ≤ d) (h : (((-2147483648 ≤ g ∧ g ≤ 2147483647) ∧ (-2147483648 ≤ (I 111 (4 : Int)) ∧ (I 111 (4 : Int)) ≤ 2147483647)) ∧ (((I 111 (4 : Int)) ≤ g → (((-2147483648 ≤ ow ∧ ow ≤ 2147483647) ∧ (-2147483648 ≤ al ∧ al ≤ 2147483647) ∧ ¬ al = 0) ∧ (((-2147483648 ≤ bf ∧ bf ≤ 2147483647) ∧ (-2147483648 ≤ re ∧ re ≤ 2147483647)) ∧ ((re ≤ bf → post (some (xi ((Int.tdiv ow al) + (0 : Int)))) I L (gG D)) ∧ (bf < re → post (some (xi ((Int.tdiv ow al) + (1 : Int)))) I L (gG D)))))) ∧ (g < (I 111 (4 : Int)) → (((-2147483648 ≤ ak ∧ ak ≤ 2147483647)) ∧ ((ak = 0 → (((0 ≤ ((21 : Int) + g) ∧ ((21 : Int) + g) < (102 : Int))) ∧ (((-2147483648 ≤ (mu * (I 111 ((21 : Int) + g))) ∧ (mu * (I 111 ((21 : Int) + g))) ≤ 2147483647) ∧ (-2147483648 ≤ al ∧ al ≤ 2147483647) ∧ ¬ al = 0) ∧ (((-2147483648 ≤ ow ∧ ow ≤ 2147483647)) ∧ (((-2147483648 ≤ (Int.tmod (mu * (I 111 ((21 : Int) + g))) al) ∧ (Int.tmod (mu * (I 111 ((21 : Int) + g))) al) ≤ 2147483647) ∧ (-2147483648 ≤ (Int.tmod ow al) ∧ (Int.tmod ow al) ≤ 2147483647)) ∧ (((Int.tmod ow al) < (Int.tmod (mu * (I 111 ((21 : Int) + g))) al) → xR d 247 es_247 65 [xr (some 101), xi mu, xi gu, xi al, xi ak, xi ow, xi (re - (Int.tdiv (mu * (I 111 ((21 : Int) + g))) al)), xi (bf + (1 : Int)), xi (g + (1 : Int)), xi (mu * (I 111 ((21 : Int) + g)))] [] I L (gG D) 0 0 post) ∧ ((Int.tmod (mu * (I 111 ((21 : Int) + g))) al) ≤ (Int.tmod ow al) → (((¬ (Int.tmod (mu * (I 111 ((21 : Int) + g))) al) = (Int.tmod ow al) → xR d 247 es_247 65 [xr (some 101), xi mu, xi gu, xi al, xi ak, xi ow, xi (re - (Int.tdiv (mu * (I 111 ((21 : Int) + g))) al)), xi (bf + (0 : Int)), xi (g + (1 : Int)), xi (mu * (I 111 ((21 : Int) + g)))] [] I L (gG D) 0 0 post) ∧ ((Int.tmod (mu * (I 111 ((21 : Int) + g))) al) = (Int.tmod ow al) → (((-2147483648 ≤ gu ∧ gu ≤ 2147483647)) ∧ ((gu ≤ g → xR d 247 es_247 65 [xr (some 101), xi mu, xi gu, xi al, xi ak, xi ow, xi (re - (Int.tdiv (mu * (I 111 ((21 : Int) + g))) al)), xi (bf + (0 : Int)), xi (g + (1 : Int)), xi (mu * (I 111 ((21 : Int) + g)))] [] I L (gG D) 0 0 post) ∧ (g < gu → xR d 247 es_247 65 [xr (some 101), xi mu, xi gu, xi al, xi ak, xi ow, xi (re - (Int.tdiv (mu * (I 111 ((21 : Int) + g))) al)), xi (bf + (1 : Int)), xi (g + (1 : Int)), xi (mu * (I 111 ((21 : Int) + g)))] [] I L (gG D) 0 0 post))))))))))))) ∧ (¬ ak = 0 → (((-2147483648 ≤ (mu * (1 : Int)) ∧ (mu * (1 : Int)) ≤ 2147483647) ∧ (-2147483648 ≤ al ∧ al ≤ 2147483647) ∧ ¬ al = 0) ∧ (((-2147483648 ≤ ow ∧ ow ≤ 2147483647)) ∧ (((-2147483648 ≤ (Int.tmod (mu * (1 : Int)) al) ∧ (Int.tmod (mu * (1 : Int)) al) ≤ 2147483647) ∧ (-2147483648 ≤ (Int.tmod ow al) ∧ (Int.tmod ow al) ≤ 2147483647)) ∧ (((Int.tmod ow al) < (Int.tmod (mu * (1 : Int)) al) → xR d 247 es_247 65 [xr (some 101), xi mu, xi gu, xi al, xi ak, xi ow, xi (re - (Int.tdiv (mu * (1 : Int)) al)), xi (bf + (1 : Int)), xi (g + (1 : Int)), xi (mu * (1 : Int))] [] I L (gG D) 0 0 post) ∧ ((Int.tmod (mu * (1 : Int)) al) ≤ (Int.tmod ow al) → (((¬ (Int.tmod (mu * (1 : Int)) al) = (Int.tmod ow al) → xR d 247 es_247 65 [xr (some 101), xi mu, xi gu, xi al, xi ak, xi ow, xi (re - (Int.tdiv (mu * (1 : Int)) al)), xi (bf + (0 : Int)), xi (g + (1 : Int)), xi (mu * (1 : Int))] [] I L (gG D) 0 0 post) ∧ ((Int.tmod (mu * (1 : Int)) al) = (Int.tmod ow al) → (((-2147483648 ≤ gu ∧ gu ≤ 2147483647)) ∧ ((gu ≤ g → xR d 247 es_247 65 [xr (some 101), xi mu, xi gu, xi al, xi ak, xi ow, xi (re - (Int.tdiv (mu * (1 : Int)) al)), xi (bf + (0 : Int)), xi (g + (1 : Int)), xi (mu * (1 : Int))] [] I L (gG D) 0 0 post) ∧ (g < gu → xR d 247 es_247 65 [xr (some 101), xi mu, xi gu, xi al, xi ak, xi ow, xi (re - (Int.tdiv (mu * (1 : Int)) al)), xi (bf + (1 : Int)), xi (g + (1 : Int)), xi (mu * (1 : Int))] [] I L (gG D) 0 0 post)))))))))))))))))) : xR d 247 es_247 65 [xr (some 101), xi mu, xi gu, xi al, xi ak, xi ow, xi re, xi bf, xi g, x9] [] I L (gG D) 0 0 post := sg_247_65  (⟨(by decide), ⟨⟨h.1.1, h.1.2⟩, ⟨fun q517 => ⟨⟨(h.2.1 q517).1.1, (h.2.1 q517).1.2.1, (h.2.1 q517).1.2.2⟩, ⟨⟨(h.2.1 q517).2.1.1, (h.2.1 q517).2.1.2⟩, ⟨fun q501 => ((h.2.1 q517).2.2.1 q501), fun q502 => ((h.2.1 q517).2.2.2 q502)⟩⟩⟩, fun q518 => ⟨(h.2.2 q518).1, ⟨fun q515 => ⟨((h.2.2 q518).2.1 q515).1, ⟨⟨((h.2.2 q518).2.1 q515).2.1.1, ((h.2.2 q518).2.1 q515).2.1.2.1, ((h.2.2 q518).2.1 q515).2.1.2.2⟩, ⟨⟨((h.2.2 q518).2.1 q515).2.1.1, ((h.2.2 q518).2.1 q515).2.1.2.1, ((h.2.2 q518).2.1 q515).2.1.2.2⟩, ⟨⟨((h.2.2 q518).2.1 q515).2.2.1, ((h.2.2 q518).2.1 q515).2.1.2.1, ((h.2.2 q518).2.1 q515).2.1.2.2⟩, ⟨⟨((h.2.2 q518).2.1 q515).2.2.2.1.1, ((h.2.2 q518).2.1 q515).2.2.2.1.2⟩, ⟨fun q507 => (((h.2.2 q518).2.1 q515).2.2.2.2.1 q507), fun q508 => ⟨⟨((h.2.2 q518).2.1 q515).2.1.1, ((h.2.2 q518).2.1 q515).2.1.2.1, ((h.2.2 q518).2.1 q515).2.1.2.2⟩, ⟨⟨((h.2.2 q518).2.1 q515).2.2.1, ((h.2.2 q518).2.1 q515).2.1.2.1, ((h.2.2 q518).2.1 q515).2.1.2.2⟩, ⟨⟨((h.2.2 q518).2.1 q515).2.2.2.1.1, ((h.2.2 q518).2.1 q515).2.2.2.1.2⟩, ⟨fun q505 => ((((h.2.2 q518).2.1 q515).2.2.2.2.2 q508).1 q505), fun q506 => ⟨⟨h.1.1, ((((h.2.2 q518).2.1 q515).2.2.2.2.2 q508).2 q506).1⟩, ⟨fun q503 => (((((h.2.2 q518).2.1 q515).2.2.2.2.2 q508).2 q506).2.1 q503), fun q504 => (((((h.2.2 q518).2.1 q515).2.2.2.2.2 q508).2 q506).2.2 q504)⟩⟩⟩⟩⟩⟩⟩⟩⟩⟩⟩⟩, fun q516 => ⟨⟨((h.2.2 q518).2.2 q516).1.1, ((h.2.2 q518).2.2 q516).1.2.1, ((h.2.2 q518).2.2 q516).1.2.2⟩, ⟨⟨((h.2.2 q518).2.2 q516).1.1, ((h.2.2 q518).2.2 q516).1.2.1, ((h.2.2 q518).2.2 q516).1.2.2⟩, ⟨⟨((h.2.2 q518).2.2 q516).2.1, ((h.2.2 q518).2.2 q516).1.2.1, ((h.2.2 q518).2.2 q516).1.2.2⟩, ⟨⟨((h.2.2 q518).2.2 q516).2.2.1.1, ((h.2.2 q518).2.2 q516).2.2.1.2⟩, ⟨fun q513 => (((h.2.2 q518).2.2 q516).2.2.2.1 q513), fun q514 => ⟨⟨((h.2.2 q518).2.2 q516).1.1, ((h.2.2 q518).2.2 q516).1.2.1, ((h.2.2 q518).2.2 q516).1.2.2⟩, ⟨⟨((h.2.2 q518).2.2 q516).2.1, ((h.2.2 q518).2.2 q516).1.2.1, ((h.2.2 q518).2.2 q516).1.2.2⟩, ⟨⟨((h.2.2 q518).2.2 q516).2.2.1.1, ((h.2.2 q518).2.2 q516).2.2.1.2⟩, ⟨fun q511 => ((((h.2.2 q518).2.2 q516).2.2.2.2 q514).1 q511), fun q512 => ⟨⟨h.1.1, ((((h.2.2 q518).2.2 q516).2.2.2.2 q514).2 q512).1⟩, ⟨fun q509 => (((((h.2.2 q518).2.2 q516).2.2.2.2 q514).2 q512).2.1 q509), fun q510 => (((((h.2.2 q518).2.2 q516).2.2.2.2 q514).2 q512).2.2 q510)⟩⟩⟩⟩⟩⟩⟩⟩⟩⟩⟩⟩⟩⟩⟩⟩)
theorem lp_247a {I : XI} {L : XL} {D : GD} {d : Nat} {mu gu al : Int} (hd : 1 ≤ d) (hS : SO (I 111)) (hm : 0 ≤ mu ∧ mu ≤ 9999) (hg : 0 ≤ gu ∧ gu < I 111 4) (ha : 0 < al ∧ al ≤ 1000) (x9 : XV) : xR d 247 es_247 65 [xr (some 101), xi mu, xi gu, xi al, xi 0, xi (mu * I 111 (21 + gu)), xi mu, xi 0, xi 0, x9] [] I L (gG D) 0 0 (xD (some (xi (qpn (fun g => I 111 (21 + g)) mu al gu (I 111 4).toNat))) I L (gG D)) := by
  have hn := hS.g
  have hw : ∀ j : Nat, j < 5 → 0 ≤ (fun g => I 111 (21 + g)) (j : Int) ∧ (fun g => I 111 (21 + g)) (j : Int) ≤ 99 := fun j hj => hS.r (by omega) (by omega)
  have hr := hS.r hg.1 (by omega)
  have ho : 0 ≤ mu * I 111 (21 + gu) ∧ mu * I 111 (21 + gu) ≤ 989901 := pdue hm.1 hm.2 hr.1 hr.2
  have hot := ptm (x := mu * I 111 (21 + gu)) (n := al) (by omega) (by omega)
  have key : ∀ k : Nat, k ≤ (I 111 4).toNat → ∀ (x9 : XV), xR d 247 es_247 65 [xr (some 101), xi mu, xi gu, xi al, xi 0, xi (mu * I 111 (21 + gu)), xi (ppn (fun g => I 111 (21 + g)) mu al (mu * (fun g => I 111 (21 + g)) gu) gu k).1, xi (ppn (fun g => I 111 (21 + g)) mu al (mu * (fun g => I 111 (21 + g)) gu) gu k).2, xi (k : Int), x9] [] I L (gG D) 0 0 (xD (some (xi (qpn (fun g => I 111 (21 + g)) mu al gu (I 111 4).toNat))) I L (gG D)) := by
    refine xfor ?_ ?_
    · intro x9
      have hq := ppn_rg (w := (fun g => I 111 (21 + g))) (mu := mu) (al := al) (ow := mu * (fun g => I 111 (21 + g)) gu) (gu := gu) hm ha.1 (I 111 4).toNat (by omega) (fun j hj => hw j (by omega))
      refine b_247 (by omega) ?_
      repeat' first | (with_reducible intro _) | (with_reducible refine And.intro ?_ ?_)
      all_goals first | omega | assumption | skip
      all_goals (refine xD_eq ?_ rfl rfl; unfold qpn; first | (rw [if_pos (by omega)]; done) | (rw [if_neg (by omega)]; done))
    · intro k hk ih x9
      have hq := ppn_rg (w := (fun g => I 111 (21 + g))) (mu := mu) (al := al) (ow := mu * (fun g => I 111 (21 + g)) gu) (gu := gu) hm ha.1 k (by omega) (fun j hj => hw j (by omega))
      have hwk := hw k (by omega)
      have h3 : 0 ≤ mu * I 111 (21 + (k : Int)) ∧ mu * I 111 (21 + (k : Int)) ≤ 989901 := pdue hm.1 hm.2 hwk.1 hwk.2
      have h4 := ptd h3.1 ha.1
      have h5 := ptm h3.1 ha.1
      have e : (ppn (fun g => I 111 (21 + g)) mu al (mu * (fun g => I 111 (21 + g)) gu) gu (k + 1)) = ((ppn (fun g => I 111 (21 + g)) mu al (mu * (fun g => I 111 (21 + g)) gu) gu k).1 - Int.tdiv (mu * I 111 (21 + (k : Int))) al, (ppn (fun g => I 111 (21 + g)) mu al (mu * (fun g => I 111 (21 + g)) gu) gu k).2 + (if Int.tmod (mu * I 111 (21 + gu)) al < Int.tmod (mu * I 111 (21 + (k : Int))) al ∨ (Int.tmod (mu * I 111 (21 + (k : Int))) al = Int.tmod (mu * I 111 (21 + gu)) al ∧ (k : Int) < gu) then 1 else 0)) := rfl
      refine b_247 (by omega) ?_
      repeat' first | (with_reducible intro _) | (with_reducible refine And.intro ?_ ?_)
      all_goals first | omega | assumption | skip
      all_goals first
        | (rw [if_pos (by omega)] at e; rw [e] at ih; exact ih _)
        | (rw [if_neg (by omega)] at e; rw [e] at ih; exact ih _)
  exact key 0 (Nat.zero_le _) _
theorem lp_247b {I : XI} {L : XL} {D : GD} {d : Nat} {mu gu al : Int} (hd : 1 ≤ d) (hS : SO (I 111)) (hm : 0 ≤ mu ∧ mu ≤ 9999) (hg : 0 ≤ gu ∧ gu < I 111 4) (ha : 0 < al ∧ al ≤ 1000) (x9 : XV) : xR d 247 es_247 65 [xr (some 101), xi mu, xi gu, xi al, xi 1, xi (mu * 1), xi mu, xi 0, xi 0, x9] [] I L (gG D) 0 0 (xD (some (xi (qpn (fun _ => (1 : Int)) mu al gu (I 111 4).toNat))) I L (gG D)) := by
  have hn := hS.g
  have hw : ∀ j : Nat, j < 5 → 0 ≤ (fun _ => (1 : Int)) (j : Int) ∧ (fun _ => (1 : Int)) (j : Int) ≤ 99 := fun j hj => (by show (0 : Int) ≤ 1 ∧ (1 : Int) ≤ 99; decide)
  have hr := hS.r hg.1 (by omega)
  have ho : 0 ≤ mu * 1 ∧ mu * 1 ≤ 989901 := pdue hm.1 hm.2 (by decide) (by decide)
  have hot := ptm (x := mu * 1) (n := al) (by omega) (by omega)
  have key : ∀ k : Nat, k ≤ (I 111 4).toNat → ∀ (x9 : XV), xR d 247 es_247 65 [xr (some 101), xi mu, xi gu, xi al, xi 1, xi (mu * 1), xi (ppn (fun _ => (1 : Int)) mu al (mu * (fun _ => (1 : Int)) gu) gu k).1, xi (ppn (fun _ => (1 : Int)) mu al (mu * (fun _ => (1 : Int)) gu) gu k).2, xi (k : Int), x9] [] I L (gG D) 0 0 (xD (some (xi (qpn (fun _ => (1 : Int)) mu al gu (I 111 4).toNat))) I L (gG D)) := by
    refine xfor ?_ ?_
    · intro x9
      have hq := ppn_rg (w := (fun _ => (1 : Int))) (mu := mu) (al := al) (ow := mu * (fun _ => (1 : Int)) gu) (gu := gu) hm ha.1 (I 111 4).toNat (by omega) (fun j hj => hw j (by omega))
      refine b_247 (by omega) ?_
      repeat' first | (with_reducible intro _) | (with_reducible refine And.intro ?_ ?_)
      all_goals first | omega | assumption | skip
      all_goals (refine xD_eq ?_ rfl rfl; unfold qpn; first | (rw [if_pos (by omega)]; done) | (rw [if_neg (by omega)]; done))
    · intro k hk ih x9
      have hq := ppn_rg (w := (fun _ => (1 : Int))) (mu := mu) (al := al) (ow := mu * (fun _ => (1 : Int)) gu) (gu := gu) hm ha.1 k (by omega) (fun j hj => hw j (by omega))
      have hwk := hw k (by omega)
      have h3 : 0 ≤ mu * 1 ∧ mu * 1 ≤ 989901 := pdue hm.1 hm.2 hwk.1 hwk.2
      have h4 := ptd h3.1 ha.1
      have h5 := ptm h3.1 ha.1
      have e : (ppn (fun _ => (1 : Int)) mu al (mu * (fun _ => (1 : Int)) gu) gu (k + 1)) = ((ppn (fun _ => (1 : Int)) mu al (mu * (fun _ => (1 : Int)) gu) gu k).1 - Int.tdiv (mu * 1) al, (ppn (fun _ => (1 : Int)) mu al (mu * (fun _ => (1 : Int)) gu) gu k).2 + (if Int.tmod (mu * 1) al < Int.tmod (mu * 1) al ∨ (Int.tmod (mu * 1) al = Int.tmod (mu * 1) al ∧ (k : Int) < gu) then 1 else 0)) := rfl
      refine b_247 (by omega) ?_
      repeat' first | (with_reducible intro _) | (with_reducible refine And.intro ?_ ?_)
      all_goals first | omega | assumption | skip
      all_goals first
        | (rw [if_pos (by omega)] at e; rw [e] at ih; exact ih _)
        | (rw [if_neg (by omega)] at e; rw [e] at ih; exact ih _)
  exact key 0 (Nat.zero_le _) _
theorem c_247 {I : XI} {L : XL} {D : GD}   {mu : Int} {gu : Int} (h : (SO (I 111) ∧ (-2147483648 ≤ mu ∧ mu ≤ 2147483647) ∧ (-2147483648 ≤ gu ∧ gu ≤ 2147483647))) : xM 1 247 [xr (some 101), xi mu, xi gu] I L (gG D) (0, 0) (xD (some (xi (if (0 ≤ gu ∧ gu < I 111 (4 : Int)) ∧ (0 ≤ mu ∧ mu ≤ 9999) then qpence (I 111) mu gu else -1))) I L (gG D)) := by
  intro d hd
  obtain ⟨hS, h1, h2⟩ := h
  have hn := hS.n
  have hg := hS.g
  have hf := hS.f
  refine w_247 (by omega) ?_
  by_cases hc : (0 ≤ gu ∧ gu < I 111 (4 : Int)) ∧ (0 ≤ mu ∧ mu ≤ 9999)
  · simp only [if_pos hc]
    have key : ∀ k : Nat, k ≤ (I 111 4).toNat → ∀ (x5 : XV) (x6 : XV) (x7 : XV) (x8 : XV) (x9 : XV), xR d 247 es_247 16 [xr (some 101), xi mu, xi gu, xi (psumr (I 111) k), xi (k : Int), x5, x6, x7, x8, x9] [] I L (gG D) 0 0 (xD (some (xi (qpence (I 111) mu gu))) I L (gG D)) := by
      refine xfor ?_ ?_
      · intro x5 x6 x7 x8 x9
        have hq := psumr_rg hS (I 111 4).toNat (by omega)
        refine b_247a (by omega) ?_
        repeat' first | (with_reducible intro _) | (with_reducible refine And.intro ?_ ?_)
        all_goals first | omega | assumption | skip
        · have := lp_247a (I := I) (L := L) (D := D) (d := d) (mu := mu) (gu := gu) (al := psumr (I 111) (I 111 4).toNat) (by omega) hS (by omega) (by omega) (by omega) x9
          unfold qpence
          rw [if_neg (by assumption)]
          exact this
        · have := lp_247b (I := I) (L := L) (D := D) (d := d) (mu := mu) (gu := gu) (al := I 111 4) (by omega) hS (by omega) (by omega) (by omega) x9
          unfold qpence
          rw [if_pos (by assumption)]
          exact this
      · intro k hk ih x5 x6 x7 x8 x9
        have hq := psumr_rg hS k (by omega)
        have hr := hS.r (g := (k : Int)) (by omega) (by omega)
        refine b_247a (by omega) ?_
        repeat' first | (with_reducible intro _) | (with_reducible refine And.intro ?_ ?_)
        all_goals first | omega | assumption | skip
        exact ih _ _ _ _ _
    repeat' first | (with_reducible intro _) | (with_reducible refine And.intro ?_ ?_)
    all_goals first | omega | assumption | exact ⟨hS, by omega⟩ | exact xD_in | skip
    exact key 0 (Nat.zero_le _) _ _ _ _ _
  · simp only [if_neg hc]
    repeat' first | (with_reducible intro _) | (with_reducible refine And.intro ?_ ?_)
    all_goals first | omega | assumption | exact ⟨hS, by omega⟩ | (exact xD_eq rfl rfl rfl) | skip
/-- what notes are at any time -/
def NO (a : Int → Int) : Prop := (0 ≤ a 101 ∧ a 101 ≤ 10) ∧ ∀ i, 0 ≤ i → i < 10 → (0 ≤ a (71 + 3 * i) ∧ a (71 + 3 * i) ≤ 60) ∧ (0 ≤ a (71 + 3 * i + 1) ∧ a (71 + 3 * i + 1) < 10) ∧ (-1 ≤ a (71 + 3 * i + 2) ∧ a (71 + 3 * i + 2) < 5)
/-- whether note i says otherwise behind turn n -/
def pnb (a : Int → Int) (n i : Int) : Bool := decide (a (71 + 3 * i) = n ∧ ¬ a (11 + a (71 + 3 * i + 1)) = a (71 + 3 * i + 2))
def pnr (a : Int → Int) (n : Int) : Nat → Int → Bool
  | 0, _ => true
  | r + 1, i => if pnb a n i = true then false else pnr a n r (i + 1)
def pnso (a : Int → Int) (n : Int) : Bool := pnr a n (a 101).toNat 0
theorem pnr_pos {a : Int → Int} {n i : Int} {r : Nat} (hr : 0 < r) (h : pnb a n i = true) : pnr a n r i = false := by
  obtain ⟨m, rfl⟩ : ∃ m, r = m + 1 := ⟨r - 1, by omega⟩
  rw [pnr, if_pos h]
theorem pnr_neg {a : Int → Int} {n i : Int} {r : Nat} (hr : 0 < r) (h : ¬ pnb a n i = true) : pnr a n r i = pnr a n (r - 1) (i + 1) := by
  obtain ⟨m, rfl⟩ : ∃ m, r = m + 1 := ⟨r - 1, by omega⟩
  rw [pnr, if_neg h]
  rfl
set_option maxRecDepth 8000 in
theorem sg_249_0 {d : Nat} {I : XI} {L : XL} {D : GD} {post : XQ}  {u1 : Int} (h : xR d 249 es_249 2 [xr (some 101), xi u1, xi (0 : Int)] [] I L (gG D) 0 0 post) : xR d 249 es_249 0 [xr (some 101), xi u1, xt 0] [] I L (gG D) 0 0 post := xW_R (fun k => Nat.beq k 2) 2 _ _ _ _ _ _ _ _ _ _ _ _ h
set_option maxRecDepth 8000 in
theorem w_249 {d : Nat} {I : XI} {L : XL} {D : GD} {post : XQ}   {n : Int} (hd : 0 ≤ d) (h : xR d 249 es_249 2 [xr (some 101), xi n, xi (0 : Int)] [] I L (gG D) 0 0 post) : xR d 249 es_249 0 [xr (some 101), xi n, xt 0] [] I L (gG D) 0 0 post := sg_249_0  (h)
set_option maxRecDepth 8000 in
theorem sg_249_2 {d : Nat} {I : XI} {L : XL} {D : GD} {post : XQ}  {u1 : Int} {u2 : Int} (h : ((0 ≤ (101 : Int) ∧ (101 : Int) < (102 : Int)) ∧ (((-2147483648 ≤ u2 ∧ u2 ≤ 2147483647) ∧ (-2147483648 ≤ ((3 : Int) * (I 111 (101 : Int))) ∧ ((3 : Int) * (I 111 (101 : Int))) ≤ 2147483647)) ∧ ((((3 : Int) * (I 111 (101 : Int))) ≤ u2 → (((1 : Int) = 0 ∨ (1 : Int) = 1) ∧ post (some (xi (1 : Int))) I L (gG D))) ∧ (u2 < ((3 : Int) * (I 111 (101 : Int))) → ((0 ≤ ((71 : Int) + u2) ∧ ((71 : Int) + u2) < (102 : Int)) ∧ (((-2147483648 ≤ (I 111 ((71 : Int) + u2)) ∧ (I 111 ((71 : Int) + u2)) ≤ 2147483647) ∧ (-2147483648 ≤ u1 ∧ u1 ≤ 2147483647)) ∧ ((¬ (I 111 ((71 : Int) + u2)) = u1 → xR d 249 es_249 2 [xr (some 101), xi u1, xi (u2 + (3 : Int))] [] I L (gG D) 0 0 post) ∧ ((I 111 ((71 : Int) + u2)) = u1 → ((0 ≤ (((71 : Int) + u2) + (1 : Int)) ∧ (((71 : Int) + u2) + (1 : Int)) < (102 : Int)) ∧ ((0 ≤ ((11 : Int) + (I 111 (((71 : Int) + u2) + (1 : Int)))) ∧ ((11 : Int) + (I 111 (((71 : Int) + u2) + (1 : Int)))) < (102 : Int)) ∧ ((0 ≤ (((71 : Int) + u2) + (2 : Int)) ∧ (((71 : Int) + u2) + (2 : Int)) < (102 : Int)) ∧ (((-2147483648 ≤ (I 111 ((11 : Int) + (I 111 (((71 : Int) + u2) + (1 : Int))))) ∧ (I 111 ((11 : Int) + (I 111 (((71 : Int) + u2) + (1 : Int))))) ≤ 2147483647) ∧ (-2147483648 ≤ (I 111 (((71 : Int) + u2) + (2 : Int))) ∧ (I 111 (((71 : Int) + u2) + (2 : Int))) ≤ 2147483647)) ∧ (((I 111 ((11 : Int) + (I 111 (((71 : Int) + u2) + (1 : Int))))) = (I 111 (((71 : Int) + u2) + (2 : Int))) → xR d 249 es_249 2 [xr (some 101), xi u1, xi (u2 + (3 : Int))] [] I L (gG D) 0 0 post) ∧ (¬ (I 111 ((11 : Int) + (I 111 (((71 : Int) + u2) + (1 : Int))))) = (I 111 (((71 : Int) + u2) + (2 : Int))) → (((0 : Int) = 0 ∨ (0 : Int) = 1) ∧ post (some (xi (0 : Int))) I L (gG D))))))))))))))))) : xR d 249 es_249 2 [xr (some 101), xi u1, xi u2] [] I L (gG D) 0 0 post := xW_R (fun k => Nat.beq k 2) 40 _ _ _ _ _ _ _ _ _ _ _ _ h
set_option maxRecDepth 8000 in
theorem b_249 {d : Nat} {I : XI} {L : XL} {D : GD} {post : XQ}   {n : Int} {i0 : Int} (hd : 0 ≤ d) (h : (((-2147483648 ≤ i0 ∧ i0 ≤ 2147483647) ∧ (-2147483648 ≤ ((3 : Int) * (I 111 (101 : Int))) ∧ ((3 : Int) * (I 111 (101 : Int))) ≤ 2147483647)) ∧ ((((3 : Int) * (I 111 (101 : Int))) ≤ i0 → post (some (xi (1 : Int))) I L (gG D)) ∧ (i0 < ((3 : Int) * (I 111 (101 : Int))) → (((0 ≤ ((71 : Int) + i0) ∧ ((71 : Int) + i0) < (102 : Int))) ∧ (((-2147483648 ≤ (I 111 ((71 : Int) + i0)) ∧ (I 111 ((71 : Int) + i0)) ≤ 2147483647) ∧ (-2147483648 ≤ n ∧ n ≤ 2147483647)) ∧ ((¬ (I 111 ((71 : Int) + i0)) = n → xR d 249 es_249 2 [xr (some 101), xi n, xi (i0 + (3 : Int))] [] I L (gG D) 0 0 post) ∧ ((I 111 ((71 : Int) + i0)) = n → (((0 ≤ (((71 : Int) + i0) + (1 : Int)) ∧ (((71 : Int) + i0) + (1 : Int)) < (102 : Int))) ∧ (((0 ≤ ((11 : Int) + (I 111 (((71 : Int) + i0) + (1 : Int)))) ∧ ((11 : Int) + (I 111 (((71 : Int) + i0) + (1 : Int)))) < (102 : Int))) ∧ (((0 ≤ (((71 : Int) + i0) + (2 : Int)) ∧ (((71 : Int) + i0) + (2 : Int)) < (102 : Int))) ∧ (((-2147483648 ≤ (I 111 ((11 : Int) + (I 111 (((71 : Int) + i0) + (1 : Int))))) ∧ (I 111 ((11 : Int) + (I 111 (((71 : Int) + i0) + (1 : Int))))) ≤ 2147483647) ∧ (-2147483648 ≤ (I 111 (((71 : Int) + i0) + (2 : Int))) ∧ (I 111 (((71 : Int) + i0) + (2 : Int))) ≤ 2147483647)) ∧ (((I 111 ((11 : Int) + (I 111 (((71 : Int) + i0) + (1 : Int))))) = (I 111 (((71 : Int) + i0) + (2 : Int))) → xR d 249 es_249 2 [xr (some 101), xi n, xi (i0 + (3 : Int))] [] I L (gG D) 0 0 post) ∧ (¬ (I 111 ((11 : Int) + (I 111 (((71 : Int) + i0) + (1 : Int))))) = (I 111 (((71 : Int) + i0) + (2 : Int))) → post (some (xi (0 : Int))) I L (gG D))))))))))))))) : xR d 249 es_249 2 [xr (some 101), xi n, xi i0] [] I L (gG D) 0 0 post := sg_249_2  (⟨(by decide), ⟨⟨h.1.1, h.1.2⟩, ⟨fun q523 => ⟨(by decide), (h.2.1 q523)⟩, fun q524 => ⟨(h.2.2 q524).1, ⟨⟨(h.2.2 q524).2.1.1, (h.2.2 q524).2.1.2⟩, ⟨fun q521 => ((h.2.2 q524).2.2.1 q521), fun q522 => ⟨((h.2.2 q524).2.2.2 q522).1, ⟨((h.2.2 q524).2.2.2 q522).2.1, ⟨((h.2.2 q524).2.2.2 q522).2.2.1, ⟨⟨((h.2.2 q524).2.2.2 q522).2.2.2.1.1, ((h.2.2 q524).2.2.2 q522).2.2.2.1.2⟩, ⟨fun q519 => (((h.2.2 q524).2.2.2 q522).2.2.2.2.1 q519), fun q520 => ⟨(by decide), (((h.2.2 q524).2.2.2 q522).2.2.2.2.2 q520)⟩⟩⟩⟩⟩⟩⟩⟩⟩⟩⟩⟩)
theorem c_249 {I : XI} {L : XL} {D : GD}   {n : Int} (h : (SO (I 111) ∧ NO (I 111) ∧ (-2147483648 ≤ n ∧ n ≤ 2147483647))) : xM 0 249 [xr (some 101), xi n] I L (gG D) (0, 0) (xD (some (xi (xb (pnso (I 111) n = true)))) I L (gG D)) := by
  intro d hd
  obtain ⟨hS, hN, h1⟩ := h
  have hm := hN.1
  have hg := hS.g
  refine w_249 (by omega) ?_
  have key : ∀ k : Nat, k ≤ (I 111 101).toNat → pnso (I 111) n = pnr (I 111) n ((I 111 101).toNat - k) (k : Int) → xR d 249 es_249 2 [xr (some 101), xi n, xi (3 * (k : Int))] [] I L (gG D) 0 0 (xD (some (xi (xb (pnso (I 111) n = true)))) I L (gG D)) := by
    refine xfor ?_ ?_
    · intro  hy
      refine b_249 (by omega) ?_
      repeat' first | (with_reducible intro _) | (with_reducible refine And.intro ?_ ?_)
      all_goals first | omega | assumption | skip
      rw [hy, Nat.sub_self, xb_t (show pnr (I 111) n 0 _ = true from rfl)]
      exact xD_in
    · intro k hk ih  hy
      have hk1 := hN.2 (k : Int) (by omega) (by omega)
      have hw := hS.w (s := I 111 (71 + 3 * (k : Int) + 1)) (by omega) (by omega)
      rw [show 3 * ((k + 1 : Nat) : Int) = 3 * (k : Int) + 3 by omega, show ((k + 1 : Nat) : Int) = (k : Int) + 1 by omega, show (I 111 101).toNat - (k + 1) = (I 111 101).toNat - k - 1 by omega] at ih
      refine b_249 (by omega) ?_
      repeat' first | (with_reducible intro _) | (with_reducible refine And.intro ?_ ?_)
      all_goals first | omega | assumption | skip
      all_goals first
        | (have hb : pnb (I 111) n (k : Int) = true := by unfold pnb; rw [decide_eq_true_eq]; exact ⟨by assumption, by assumption⟩
           rw [hy, pnr_pos (by omega) hb, xb_f (by simp)]
           exact xD_in)
        | (have hb : ¬ pnb (I 111) n (k : Int) = true := by unfold pnb; rw [decide_eq_true_eq]; intro q; first | (exact absurd q.1 (by assumption)) | (exact absurd (by assumption) q.2)
           exact ih (by rw [hy, pnr_neg (by omega) hb]))
  exact key 0 (Nat.zero_le _) rfl
