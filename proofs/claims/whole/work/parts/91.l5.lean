set_option maxRecDepth 8000 in
theorem sg_183_0_fe {d : Nat} {I : XI} {L : XL} {D : GD} {post : XQ}   (h : xR d 183 es_183 1 [xr (some 101), xt 0, xt 0] [xr (some 101)] I L (gG D) 0 0 post) : xR d 183 es_183 0 [xr (some 101), xt 0, xt 0] [] I L (gG D) 0 0 post := xW_R (fun k => Nat.beq k 1 || Nat.beq k 17 || Nat.beq k 22 || Nat.beq k 27 || Nat.beq k 40 || Nat.beq k 52 || Nat.beq k 55) 1 _ _ _ _ _ _ _ _ _ _ _ _ h
set_option maxRecDepth 8000 in
theorem sg_183_2_fe {d : Nat} {I : XI} {L : XL} {D : GD} {post : XQ}  {w0 : Int} (h : (((-2147483648 ≤ (I 101 (11 : Int)) ∧ (I 101 (11 : Int)) ≤ 2147483647) ∧ (-2147483648 ≤ (6 : Int) ∧ (6 : Int) ≤ 2147483647)) ∧ ((¬ (I 101 (11 : Int)) = (6 : Int) → ((-2147483648 ≤ (0 : Int) ∧ (0 : Int) ≤ 2147483647) ∧ (((0 : Int) = 0 → xR d 183 es_183 22 [xr (some 101), xi (I 101 (8 : Int)), xi (0 : Int)] [xl (Int64.ofInt 1952541541), xr (some 101)] I L (gG D) 0 0 post) ∧ (¬ (0 : Int) = 0 → xR d 183 es_183 17 [xr (some 101), xi (I 101 (8 : Int)), xi (0 : Int)] [xr (some 101)] I L (gG D) 0 0 post)))) ∧ ((I 101 (11 : Int)) = (6 : Int) → ((-2147483648 ≤ (1 : Int) ∧ (1 : Int) ≤ 2147483647) ∧ (((1 : Int) = 0 → xR d 183 es_183 22 [xr (some 101), xi (I 101 (8 : Int)), xi (1 : Int)] [xl (Int64.ofInt 1952541541), xr (some 101)] I L (gG D) 0 0 post) ∧ (¬ (1 : Int) = 0 → xR d 183 es_183 17 [xr (some 101), xi (I 101 (8 : Int)), xi (1 : Int)] [xr (some 101)] I L (gG D) 0 0 post))))))) : xR d 183 es_183 2 [xr (some 101), xt 0, xt 0] [xi w0] I L (gG D) 0 0 post := xW_R (fun k => Nat.beq k 1 || Nat.beq k 17 || Nat.beq k 22 || Nat.beq k 27 || Nat.beq k 40 || Nat.beq k 52 || Nat.beq k 55) 15 _ _ _ _ _ _ _ _ _ _ _ _ h
set_option maxRecDepth 8000 in
theorem sg_183_23_fe {d : Nat} {I : XI} {L : XL} {D : GD} {post : XQ}  {u1 : Int} {u2 : Int} {w0 : Int} (h : ((-2147483648 ≤ w0 ∧ w0 ≤ 2147483647) ∧ ((¬ w0 = 0 → ((-2147483648 ≤ u2 ∧ u2 ≤ 2147483647) ∧ ((u2 = 0 → (((-2147483648 ≤ (I 101 (14 : Int)) ∧ (I 101 (14 : Int)) ≤ 2147483647) ∧ (-2147483648 ≤ (12 : Int) ∧ (12 : Int) ≤ 2147483647)) ∧ ((¬ (I 101 (14 : Int)) = (12 : Int) → ((-2147483648 ≤ u2 ∧ u2 ≤ 2147483647) ∧ ((u2 = 0 → xR d 183 es_183 55 [xr (some 101), xi u1, xi u2] [xr (some 101)] (xwr I 101 (14 : Int) ((I 101 (14 : Int)) + (1 : Int))) L (gG D) 0 0 post) ∧ (¬ u2 = 0 → xR d 183 es_183 52 [xr (some 101), xi u1, xi u2] [xi u1, xr (some 101)] (xwr I 101 (14 : Int) ((I 101 (14 : Int)) + (1 : Int))) L (gG D) 0 0 post)))) ∧ ((I 101 (14 : Int)) = (12 : Int) → xR d 183 es_183 40 [xr (some 101), xi u1, xi u2] [xi u1, xi (4 : Int), xr (some 101)] I L (gG D) 0 0 post)))) ∧ (¬ u2 = 0 → (((-2147483648 ≤ (I 101 (14 : Int)) ∧ (I 101 (14 : Int)) ≤ 2147483647) ∧ (-2147483648 ≤ (40 : Int) ∧ (40 : Int) ≤ 2147483647)) ∧ ((¬ (I 101 (14 : Int)) = (40 : Int) → ((-2147483648 ≤ u2 ∧ u2 ≤ 2147483647) ∧ ((u2 = 0 → xR d 183 es_183 55 [xr (some 101), xi u1, xi u2] [xr (some 101)] (xwr I 101 (14 : Int) ((I 101 (14 : Int)) + (1 : Int))) L (gG D) 0 0 post) ∧ (¬ u2 = 0 → xR d 183 es_183 52 [xr (some 101), xi u1, xi u2] [xi u1, xr (some 101)] (xwr I 101 (14 : Int) ((I 101 (14 : Int)) + (1 : Int))) L (gG D) 0 0 post)))) ∧ ((I 101 (14 : Int)) = (40 : Int) → xR d 183 es_183 40 [xr (some 101), xi u1, xi u2] [xi u1, xi (4 : Int), xr (some 101)] I L (gG D) 0 0 post))))))) ∧ (w0 = 0 → xR d 183 es_183 27 [xr (some 101), xi u1, xi u2] [xi u1, xi (0 : Int), xr (some 101)] I L (gG D) 0 0 post)))) : xR d 183 es_183 23 [xr (some 101), xi u1, xi u2] [xi w0] I L (gG D) 0 0 post := xW_R (fun k => Nat.beq k 1 || Nat.beq k 17 || Nat.beq k 22 || Nat.beq k 27 || Nat.beq k 40 || Nat.beq k 52 || Nat.beq k 55) 18 _ _ _ _ _ _ _ _ _ _ _ _ h
set_option maxRecDepth 8000 in
theorem sg_183_41_fe {d : Nat} {I : XI} {L : XL} {D : GD} {post : XQ}  {u1 : Int} {u2 : Int} {w0 : Int} (h : ((w0 = 0 ∨ w0 = 1) ∧ post (some (xi w0)) I L (gG D))) : xR d 183 es_183 41 [xr (some 101), xi u1, xi u2] [xi w0] I L (gG D) 0 0 post := xW_R (fun k => Nat.beq k 1 || Nat.beq k 17 || Nat.beq k 22 || Nat.beq k 27 || Nat.beq k 40 || Nat.beq k 52 || Nat.beq k 55) 1 _ _ _ _ _ _ _ _ _ _ _ _ h
set_option maxRecDepth 8000 in
theorem sg_183_28_fe {d : Nat} {I : XI} {L : XL} {D : GD} {post : XQ}  {u1 : Int} {u2 : Int} {w0 : Int} (h : ((w0 = 0 ∨ w0 = 1) ∧ post (some (xi w0)) I L (gG D))) : xR d 183 es_183 28 [xr (some 101), xi u1, xi u2] [xi w0] I L (gG D) 0 0 post := xW_R (fun k => Nat.beq k 1 || Nat.beq k 17 || Nat.beq k 22 || Nat.beq k 27 || Nat.beq k 40 || Nat.beq k 52 || Nat.beq k 55) 1 _ _ _ _ _ _ _ _ _ _ _ _ h
set_option maxRecDepth 8000 in
theorem sg_183_18_fe {d : Nat} {I : XI} {L : XL} {D : GD} {post : XQ}  {u1 : Int} {u2 : Int} {w0 : Int} (h : ((-2147483648 ≤ w0 ∧ w0 ≤ 2147483647) ∧ ((¬ w0 = 0 → ((-2147483648 ≤ u2 ∧ u2 ≤ 2147483647) ∧ ((u2 = 0 → (((-2147483648 ≤ (I 101 (14 : Int)) ∧ (I 101 (14 : Int)) ≤ 2147483647) ∧ (-2147483648 ≤ (12 : Int) ∧ (12 : Int) ≤ 2147483647)) ∧ ((¬ (I 101 (14 : Int)) = (12 : Int) → ((-2147483648 ≤ u2 ∧ u2 ≤ 2147483647) ∧ ((u2 = 0 → xR d 183 es_183 55 [xr (some 101), xi u1, xi u2] [xr (some 101)] (xwr I 101 (14 : Int) ((I 101 (14 : Int)) + (1 : Int))) L (gG D) 0 0 post) ∧ (¬ u2 = 0 → xR d 183 es_183 52 [xr (some 101), xi u1, xi u2] [xi u1, xr (some 101)] (xwr I 101 (14 : Int) ((I 101 (14 : Int)) + (1 : Int))) L (gG D) 0 0 post)))) ∧ ((I 101 (14 : Int)) = (12 : Int) → xR d 183 es_183 40 [xr (some 101), xi u1, xi u2] [xi u1, xi (4 : Int), xr (some 101)] I L (gG D) 0 0 post)))) ∧ (¬ u2 = 0 → (((-2147483648 ≤ (I 101 (14 : Int)) ∧ (I 101 (14 : Int)) ≤ 2147483647) ∧ (-2147483648 ≤ (40 : Int) ∧ (40 : Int) ≤ 2147483647)) ∧ ((¬ (I 101 (14 : Int)) = (40 : Int) → ((-2147483648 ≤ u2 ∧ u2 ≤ 2147483647) ∧ ((u2 = 0 → xR d 183 es_183 55 [xr (some 101), xi u1, xi u2] [xr (some 101)] (xwr I 101 (14 : Int) ((I 101 (14 : Int)) + (1 : Int))) L (gG D) 0 0 post) ∧ (¬ u2 = 0 → xR d 183 es_183 52 [xr (some 101), xi u1, xi u2] [xi u1, xr (some 101)] (xwr I 101 (14 : Int) ((I 101 (14 : Int)) + (1 : Int))) L (gG D) 0 0 post)))) ∧ ((I 101 (14 : Int)) = (40 : Int) → xR d 183 es_183 40 [xr (some 101), xi u1, xi u2] [xi u1, xi (4 : Int), xr (some 101)] I L (gG D) 0 0 post))))))) ∧ (w0 = 0 → xR d 183 es_183 27 [xr (some 101), xi u1, xi u2] [xi u1, xi (0 : Int), xr (some 101)] I L (gG D) 0 0 post)))) : xR d 183 es_183 18 [xr (some 101), xi u1, xi u2] [xi w0] I L (gG D) 0 0 post := xW_R (fun k => Nat.beq k 1 || Nat.beq k 17 || Nat.beq k 22 || Nat.beq k 27 || Nat.beq k 40 || Nat.beq k 52 || Nat.beq k 55) 18 _ _ _ _ _ _ _ _ _ _ _ _ h
set_option maxRecDepth 8000 in
theorem sg_183_53_fe {d : Nat} {I : XI} {L : XL} {D : GD} {post : XQ}  {u1 : Int} {u2 : Int} {w0 : Int} (h : ((w0 = 0 ∨ w0 = 1) ∧ post (some (xi w0)) I L (gG D))) : xR d 183 es_183 53 [xr (some 101), xi u1, xi u2] [xi w0] I L (gG D) 0 0 post := xW_R (fun k => Nat.beq k 1 || Nat.beq k 17 || Nat.beq k 22 || Nat.beq k 27 || Nat.beq k 40 || Nat.beq k 52 || Nat.beq k 55) 2 _ _ _ _ _ _ _ _ _ _ _ _ h
set_option maxRecDepth 8000 in
theorem w_183_fe {d : Nat} {I : XI} {L : XL} {D : GD} {post : XQ}    (hd : 5 ≤ d) (h : ((TPO (I 102) (I 101 (1 : Int)) ∧ (0 ≤ I 101 (8 : Int) ∧ I 101 (8 : Int) ≤ I 101 (1 : Int))) ∧ (((-2147483648 ≤ (I 101 (11 : Int)) ∧ (I 101 (11 : Int)) ≤ 2147483647)) ∧ ((¬ (I 101 (11 : Int)) = (6 : Int) → ((TPO (I 102) (I 101 (1 : Int)) ∧ (0 ≤ (sk (I 102) (I 101 (1 : Int)) (I 101 (8 : Int))) ∧ (sk (I 102) (I 101 (1 : Int)) (I 101 (8 : Int))) ≤ I 101 (1 : Int))) ∧ (((twd (I 102) (I 101 (1 : Int)) (sk (I 102) (I 101 (1 : Int)) (sk (I 102) (I 101 (1 : Int)) (I 101 (8 : Int)))) (Int64.ofInt 1952541541) = true → (((-2147483648 ≤ (I 101 (14 : Int)) ∧ (I 101 (14 : Int)) ≤ 2147483647)) ∧ ((¬ (I 101 (14 : Int)) = (12 : Int) → False) ∧ ((I 101 (14 : Int)) = (12 : Int) → (I 101 (9 : Int) = 0 ∧ post (some (xi (xb (False)))) (xsc I 101 (xup (xup (I 101) (8 : Int) (sk (I 102) (I 101 (1 : Int)) (sk (I 102) (I 101 (1 : Int)) (I 101 (8 : Int))))) (9 : Int) (1 + 8 * (sk (I 102) (I 101 (1 : Int)) (I 101 (8 : Int))) + (4 : Int)))) L (gG D)))))) ∧ (¬ (twd (I 102) (I 101 (1 : Int)) (sk (I 102) (I 101 (1 : Int)) (sk (I 102) (I 101 (1 : Int)) (I 101 (8 : Int)))) (Int64.ofInt 1952541541) = true) → (I 101 (9 : Int) = 0 ∧ post (some (xi (xb (False)))) (xsc I 101 (xup (xup (I 101) (8 : Int) (sk (I 102) (I 101 (1 : Int)) (sk (I 102) (I 101 (1 : Int)) (I 101 (8 : Int))))) (9 : Int) (1 + 8 * (sk (I 102) (I 101 (1 : Int)) (I 101 (8 : Int))) + (0 : Int)))) L (gG D))))))) ∧ ((I 101 (11 : Int)) = (6 : Int) → ((TPO (I 102) (I 101 (1 : Int)) ∧ (0 ≤ (sk (I 102) (I 101 (1 : Int)) (I 101 (8 : Int))) ∧ (sk (I 102) (I 101 (1 : Int)) (I 101 (8 : Int))) ≤ I 101 (1 : Int))) ∧ (((fck (I 102) (I 101 (1 : Int)) (sk (I 102) (I 101 (1 : Int)) (sk (I 102) (I 101 (1 : Int)) (I 101 (8 : Int)))) = true → (((-2147483648 ≤ (I 101 (14 : Int)) ∧ (I 101 (14 : Int)) ≤ 2147483647)) ∧ ((¬ (I 101 (14 : Int)) = (40 : Int) → ((TPO (I 102) (I 101 (1 : Int)) ∧ (0 ≤ (sk (I 102) (I 101 (1 : Int)) (sk (I 102) (I 101 (1 : Int)) (I 101 (8 : Int)))) ∧ (sk (I 102) (I 101 (1 : Int)) (sk (I 102) (I 101 (1 : Int)) (I 101 (8 : Int)))) ≤ I 101 (1 : Int)) ∧ I 101 (9 : Int) = 0 ∧ ((I 107 (0 : Int) = 0 ∨ I 107 (0 : Int) = 1) ∧ (0 ≤ I 107 (3 : Int) ∧ I 107 (3 : Int) ≤ 10) ∧ (0 ≤ I 107 (4 : Int) ∧ I 107 (4 : Int) ≤ 5)) ∧ (0 ≤ (sk (I 102) (I 101 (1 : Int)) (I 101 (8 : Int))) ∧ (sk (I 102) (I 101 (1 : Int)) (I 101 (8 : Int))) ≤ 400) ∧ (sk (I 102) (I 101 (1 : Int)) (sk (I 102) (I 101 (1 : Int)) (sk (I 102) (I 101 (1 : Int)) (I 101 (8 : Int))))) = (sk (I 102) (I 101 (1 : Int)) (sk (I 102) (I 101 (1 : Int)) (I 101 (8 : Int))))) ∧ (∀ (e3436 : Int) (e3437 : Int) (e3438 : Int → Int), (((fwk (I 102) (I 101 (1 : Int)) (sk (I 102) (I 101 (1 : Int)) (I 101 (8 : Int))) (sk (I 102) (I 101 (1 : Int)) (sk (I 102) (I 101 (1 : Int)) (I 101 (8 : Int)))) (I 107 (0 : Int)) (I 107 (3 : Int)) (I 107 (4 : Int))) = 0 → e3436 = (fcp (I 102) (I 101 (1 : Int)) (sk (I 102) (I 101 (1 : Int)) (sk (I 102) (I 101 (1 : Int)) (I 101 (8 : Int))))) ∧ e3438 = (fcr (I 102) (I 101 (1 : Int)) (sk (I 102) (I 101 (1 : Int)) (sk (I 102) (I 101 (1 : Int)) (I 101 (8 : Int)))) (I 107))) → post (some (xi (xb ((fwk (I 102) (I 101 (1 : Int)) (sk (I 102) (I 101 (1 : Int)) (I 101 (8 : Int))) (sk (I 102) (I 101 (1 : Int)) (sk (I 102) (I 101 (1 : Int)) (I 101 (8 : Int)))) (I 107 (0 : Int)) (I 107 (3 : Int)) (I 107 (4 : Int))) = 0)))) (xsc (xsc I 101 (xup (xup (xup (xup (I 101) (8 : Int) e3436) (9 : Int) (fwk (I 102) (I 101 (1 : Int)) (sk (I 102) (I 101 (1 : Int)) (I 101 (8 : Int))) (sk (I 102) (I 101 (1 : Int)) (sk (I 102) (I 101 (1 : Int)) (I 101 (8 : Int)))) (I 107 (0 : Int)) (I 107 (3 : Int)) (I 107 (4 : Int)))) (10 : Int) e3437) (14 : Int) ((I 101 (14 : Int)) + (1 : Int)))) 107 e3438) L (gG D))))) ∧ ((I 101 (14 : Int)) = (40 : Int) → (I 101 (9 : Int) = 0 ∧ post (some (xi (xb (False)))) (xsc I 101 (xup (xup (I 101) (8 : Int) (sk (I 102) (I 101 (1 : Int)) (sk (I 102) (I 101 (1 : Int)) (I 101 (8 : Int))))) (9 : Int) (1 + 8 * (sk (I 102) (I 101 (1 : Int)) (I 101 (8 : Int))) + (4 : Int)))) L (gG D)))))) ∧ (¬ (fck (I 102) (I 101 (1 : Int)) (sk (I 102) (I 101 (1 : Int)) (sk (I 102) (I 101 (1 : Int)) (I 101 (8 : Int)))) = true) → (I 101 (9 : Int) = 0 ∧ post (some (xi (xb (False)))) (xsc I 101 (xup (xup (I 101) (8 : Int) (sk (I 102) (I 101 (1 : Int)) (sk (I 102) (I 101 (1 : Int)) (I 101 (8 : Int))))) (9 : Int) (1 + 8 * (sk (I 102) (I 101 (1 : Int)) (I 101 (8 : Int))) + (0 : Int)))) L (gG D))))))))))) : xR d 183 es_183 0 [xr (some 101), xt 0, xt 0] [] I L (gG D) 0 0 post := sg_183_0_fe  ((xR_cF rfl rfl rfl (c_154 h.1) (by omega) (sg_183_2_fe  ⟨⟨h.2.1, (by decide)⟩, ⟨fun q3446 => ⟨(by decide), ⟨fun _ => (xR_cF rfl rfl rfl (c_157 (h.2.2.1 q3446).1) (by omega) (sg_183_23_fe  ⟨(xb_rg _), ⟨fun q3433 => ⟨(by decide), ⟨fun _ => ⟨⟨((h.2.2.1 q3446).2.1 (xb_n0 q3433)).1, (by decide)⟩, ⟨fun q3430 => ⟨(by decide), ⟨fun _ => (False.elim (((h.2.2.1 q3446).2.1 (xb_n0 q3433)).2.1 q3430)), fun q3429 => absurd q3429 (by decide)⟩⟩, fun q3431 => (xR_cF rfl rfl rfl (c_153 (((h.2.2.1 q3446).2.1 (xb_n0 q3433)).2.2 q3431).1) (by omega) (sg_183_41_fe  ⟨(xb_01 _), (xpost (((h.2.2.1 q3446).2.1 (xb_n0 q3433)).2.2 q3431).2 (funext fun i => (xpt (show (xup (xup (xup (I 101) (8 : Int) (sk (I 102) (I 101 (1 : Int)) (I 101 (8 : Int)))) (8 : Int) (sk (I 102) (I 101 (1 : Int)) (sk (I 102) (I 101 (1 : Int)) (I 101 (8 : Int))))) (9 : Int) (1 + 8 * (sk (I 102) (I 101 (1 : Int)) (I 101 (8 : Int))) + (4 : Int))) = (xup (xup (I 101) (8 : Int) (sk (I 102) (I 101 (1 : Int)) (sk (I 102) (I 101 (1 : Int)) (I 101 (8 : Int))))) (9 : Int) (1 + 8 * (sk (I 102) (I 101 (1 : Int)) (I 101 (8 : Int))) + (4 : Int))) from by funext j; simp only [xup]; (repeat' split) <;> first | rfl | omega) (fun h101_ => (by simp only [xsc_ne _ _ h101_, xwr_ne _ _ _ h101_])))) rfl)⟩))⟩⟩, fun q3432 => absurd q3432 (by decide)⟩⟩, fun q3434 => (xR_cF rfl rfl rfl (c_153 ((h.2.2.1 q3446).2.2 (xb_0 q3434)).1) (by omega) (sg_183_28_fe  ⟨(xb_01 _), (xpost ((h.2.2.1 q3446).2.2 (xb_0 q3434)).2 (funext fun i => (xpt (show (xup (xup (xup (I 101) (8 : Int) (sk (I 102) (I 101 (1 : Int)) (I 101 (8 : Int)))) (8 : Int) (sk (I 102) (I 101 (1 : Int)) (sk (I 102) (I 101 (1 : Int)) (I 101 (8 : Int))))) (9 : Int) (1 + 8 * (sk (I 102) (I 101 (1 : Int)) (I 101 (8 : Int))) + (0 : Int))) = (xup (xup (I 101) (8 : Int) (sk (I 102) (I 101 (1 : Int)) (sk (I 102) (I 101 (1 : Int)) (I 101 (8 : Int))))) (9 : Int) (1 + 8 * (sk (I 102) (I 101 (1 : Int)) (I 101 (8 : Int))) + (0 : Int))) from by funext j; simp only [xup]; (repeat' split) <;> first | rfl | omega) (fun h101_ => (by simp only [xsc_ne _ _ h101_, xwr_ne _ _ _ h101_])))) rfl)⟩))⟩⟩)), fun q3435 => absurd q3435 (by decide)⟩⟩, fun q3447 => ⟨(by decide), ⟨fun q3445 => absurd q3445 (by decide), fun _ => (xR_cF rfl rfl rfl (c_182 (h.2.2.2 q3447).1) (by omega) (sg_183_18_fe  ⟨(xb_rg _), ⟨fun q3443 => ⟨(by decide), ⟨fun q3442 => absurd q3442 (by decide), fun _ => ⟨⟨((h.2.2.2 q3447).2.1 (xb_n0 q3443)).1, (by decide)⟩, ⟨fun q3440 => ⟨(by decide), ⟨fun q3439 => absurd q3439 (by decide), fun _ => (xR_cQ rfl rfl rfl (c_181 (((h.2.2.2 q3447).2.1 (xb_n0 q3443)).2.1 q3440).1) (by omega) (fun _ _ _ _ hx3448 => by obtain ⟨e3436, e3437, e3438, hp3449, rfl, rfl, rfl, rfl⟩ := hx3448; exact (sg_183_53_fe  ⟨(xb_01 _), (xpost ((((h.2.2.2 q3447).2.1 (xb_n0 q3443)).2.1 q3440).2 e3436 e3437 e3438 hp3449) (funext fun i => (xpt rfl (fun h107_ => (xpt (show (xup (xup (xup (xup (xup (xup (I 101) (8 : Int) (sk (I 102) (I 101 (1 : Int)) (I 101 (8 : Int)))) (8 : Int) (sk (I 102) (I 101 (1 : Int)) (sk (I 102) (I 101 (1 : Int)) (I 101 (8 : Int))))) (14 : Int) ((I 101 (14 : Int)) + (1 : Int))) (8 : Int) e3436) (9 : Int) (fwk (I 102) (I 101 (1 : Int)) (sk (I 102) (I 101 (1 : Int)) (I 101 (8 : Int))) (sk (I 102) (I 101 (1 : Int)) (sk (I 102) (I 101 (1 : Int)) (I 101 (8 : Int)))) (I 107 (0 : Int)) (I 107 (3 : Int)) (I 107 (4 : Int)))) (10 : Int) e3437) = (xup (xup (xup (xup (I 101) (8 : Int) e3436) (9 : Int) (fwk (I 102) (I 101 (1 : Int)) (sk (I 102) (I 101 (1 : Int)) (I 101 (8 : Int))) (sk (I 102) (I 101 (1 : Int)) (sk (I 102) (I 101 (1 : Int)) (I 101 (8 : Int)))) (I 107 (0 : Int)) (I 107 (3 : Int)) (I 107 (4 : Int)))) (10 : Int) e3437) (14 : Int) ((I 101 (14 : Int)) + (1 : Int))) from by funext j; simp only [xup]; (repeat' split) <;> first | rfl | omega) (fun h101_ => (by simp only [xsc_ne _ _ h101_, xwr_ne _ _ _ h101_, xsc_ne _ _ h107_, xwr_ne _ _ _ h107_])))))) rfl)⟩)))⟩⟩, fun q3441 => (xR_cF rfl rfl rfl (c_153 (((h.2.2.2 q3447).2.1 (xb_n0 q3443)).2.2 q3441).1) (by omega) (sg_183_41_fe  ⟨(xb_01 _), (xpost (((h.2.2.2 q3447).2.1 (xb_n0 q3443)).2.2 q3441).2 (funext fun i => (xpt (show (xup (xup (xup (I 101) (8 : Int) (sk (I 102) (I 101 (1 : Int)) (I 101 (8 : Int)))) (8 : Int) (sk (I 102) (I 101 (1 : Int)) (sk (I 102) (I 101 (1 : Int)) (I 101 (8 : Int))))) (9 : Int) (1 + 8 * (sk (I 102) (I 101 (1 : Int)) (I 101 (8 : Int))) + (4 : Int))) = (xup (xup (I 101) (8 : Int) (sk (I 102) (I 101 (1 : Int)) (sk (I 102) (I 101 (1 : Int)) (I 101 (8 : Int))))) (9 : Int) (1 + 8 * (sk (I 102) (I 101 (1 : Int)) (I 101 (8 : Int))) + (4 : Int))) from by funext j; simp only [xup]; (repeat' split) <;> first | rfl | omega) (fun h101_ => (by simp only [xsc_ne _ _ h101_, xwr_ne _ _ _ h101_])))) rfl)⟩))⟩⟩⟩⟩, fun q3444 => (xR_cF rfl rfl rfl (c_153 ((h.2.2.2 q3447).2.2 (xb_0 q3444)).1) (by omega) (sg_183_28_fe  ⟨(xb_01 _), (xpost ((h.2.2.2 q3447).2.2 (xb_0 q3444)).2 (funext fun i => (xpt (show (xup (xup (xup (I 101) (8 : Int) (sk (I 102) (I 101 (1 : Int)) (I 101 (8 : Int)))) (8 : Int) (sk (I 102) (I 101 (1 : Int)) (sk (I 102) (I 101 (1 : Int)) (I 101 (8 : Int))))) (9 : Int) (1 + 8 * (sk (I 102) (I 101 (1 : Int)) (I 101 (8 : Int))) + (0 : Int))) = (xup (xup (I 101) (8 : Int) (sk (I 102) (I 101 (1 : Int)) (sk (I 102) (I 101 (1 : Int)) (I 101 (8 : Int))))) (9 : Int) (1 + 8 * (sk (I 102) (I 101 (1 : Int)) (I 101 (8 : Int))) + (0 : Int))) from by funext j; simp only [xup]; (repeat' split) <;> first | rfl | omega) (fun h101_ => (by simp only [xsc_ne _ _ h101_, xwr_ne _ _ _ h101_])))) rfl)⟩))⟩⟩))⟩⟩⟩⟩)))
theorem xup_a {f : Int → Int} {x w : Int} : xup (xup f 8 x) 9 w = xup (xup (xup (xup f 8 x) 9 w) 10 (f 10)) 14 (f 14) := by
  funext j
  unfold xup
  by_cases h : j = 14
  · subst h; rfl
  · rw [if_neg h]
    by_cases h2 : j = 10
    · subst h2; rfl
    · rw [if_neg h2]
theorem c_183_fe {I : XI} {L : XL} {D : GD}    (h : (TPO (I 102) (I 101 (1 : Int)) ∧ (0 ≤ I 101 (8 : Int) ∧ I 101 (8 : Int) ≤ I 101 (1 : Int)) ∧ I 101 (9 : Int) = 0 ∧ ((I 107 (0 : Int) = 0 ∨ I 107 (0 : Int) = 1) ∧ (0 ≤ I 107 (3 : Int) ∧ I 107 (3 : Int) ≤ 10) ∧ (0 ≤ I 107 (4 : Int) ∧ I 107 (4 : Int) ≤ 5)) ∧ I 101 (11 : Int) = 6 ∧ (0 ≤ I 101 (14 : Int) ∧ I 101 (14 : Int) ≤ 40))) : xM 5 183 [xr (some 101)] I L (gG D) (0, 0) (fun r2 I2 L2 G2 => ∃ (nx9 : Int) (nm9 : Int) (ln9 : Int) (rd9 : Int → Int), ((fcw (I 102) (I 101 (1 : Int)) (sk (I 102) (I 101 (1 : Int)) (I 101 (8 : Int))) (I 101 (14 : Int)) (I 107 (0 : Int)) (I 107 (3 : Int)) (I 107 (4 : Int))) = 0 → nx9 = (fcp (I 102) (I 101 (1 : Int)) (sk (I 102) (I 101 (1 : Int)) (I 101 (8 : Int)))) ∧ ln9 = I 101 (14 : Int) + 1 ∧ rd9 = (fcr (I 102) (I 101 (1 : Int)) (sk (I 102) (I 101 (1 : Int)) (I 101 (8 : Int))) (I 107))) ∧ r2 = (some (xi (xb ((fcw (I 102) (I 101 (1 : Int)) (sk (I 102) (I 101 (1 : Int)) (I 101 (8 : Int))) (I 101 (14 : Int)) (I 107 (0 : Int)) (I 107 (3 : Int)) (I 107 (4 : Int))) = 0)))) ∧ I2 = (xsc (xsc I 101 (xup (xup (xup (xup (I 101) (8 : Int) nx9) (9 : Int) (fcw (I 102) (I 101 (1 : Int)) (sk (I 102) (I 101 (1 : Int)) (I 101 (8 : Int))) (I 101 (14 : Int)) (I 107 (0 : Int)) (I 107 (3 : Int)) (I 107 (4 : Int)))) (10 : Int) nm9) (14 : Int) ln9)) 107 rd9) ∧ L2 = L ∧ G2 = (gG D)) := by
  intro d hd
  obtain ⟨hT, h1, h2, hrd, htx, hln⟩ := h
  have hT1 := hT.1
  have hs := sk_in (b := I 102) h1.2
  have hss := sk_sk (b := I 102) h1.2
  refine w_183_fe (by omega) ?_
  simp only [hss]
  unfold fcw
  by_cases ck : fck (I 102) (I 101 1) (sk (I 102) (I 101 1) (I 101 8)) = true
  · rw [if_neg (fun r => r ck)]
    by_cases l40 : I 101 14 = 40
    · simp only [if_pos l40]
      repeat' first | (with_reducible intro _) | (with_reducible refine And.intro ?_ ?_)
      all_goals first | omega | contradiction | (exact ⟨hT, by omega⟩) | (exact ⟨hT, by omega, h2, hrd, by omega, hss⟩) | assumption | (exact absurd (by assumption) (by assumption)) | (exact absurd (by assumption) (by omega)) | exact hrd.1 | (exact True.intro) | (exact False.elim (by assumption)) | skip
      all_goals (refine ⟨_, _, _, _, fun r => absurd r (by omega), by first | trivial | (rw [xb_f (by omega)]; done) | (rw [xb_f (fun r : False => r), xb_f (by omega)]), by first | rfl | (funext i; by_cases h101 : i = 101; (subst h101; first | rfl | exact (xcp_zero _ _ _ _).symm | exact (xup_self _ _).symm | exact (xup_self2 _ _ _).symm | exact (xup_self3 _ _ _ _).symm | exact xup_self _ _ | exact xup_a | exact xup_a.symm); by_cases h107 : i = 107; (subst h107; first | rfl | exact (xcp_zero _ _ _ _).symm | exact (xup_self _ _).symm | exact (xup_self2 _ _ _).symm | exact (xup_self3 _ _ _ _).symm | exact xup_self _ _ | exact xup_a | exact xup_a.symm); first | rfl | simp only [xsc_ne _ _ h101, xsc_ne _ _ h107]), (by first | rfl | trivial), (by first | rfl | trivial)⟩)
    · simp only [if_neg l40]
      repeat' first | (with_reducible intro _) | (with_reducible refine And.intro ?_ ?_)
      all_goals first | omega | contradiction | (exact ⟨hT, by omega⟩) | (exact ⟨hT, by omega, h2, hrd, by omega, hss⟩) | assumption | (exact absurd (by assumption) (by assumption)) | (exact absurd (by assumption) (by omega)) | exact hrd.1 | (exact True.intro) | (exact False.elim (by assumption)) | skip
      all_goals (
        rename (_ = 0 → _ ∧ _) => hp
        exact ⟨_, _, _, _, fun r => ⟨(hp r).1, rfl, (hp r).2⟩, (by first | rfl | trivial), by first | rfl | (funext i; by_cases h101 : i = 101; (subst h101; first | rfl | exact (xcp_zero _ _ _ _).symm | exact (xup_self _ _).symm | exact (xup_self2 _ _ _).symm | exact (xup_self3 _ _ _ _).symm | exact xup_self _ _ | exact xup_a | exact xup_a.symm); by_cases h107 : i = 107; (subst h107; first | rfl | exact (xcp_zero _ _ _ _).symm | exact (xup_self _ _).symm | exact (xup_self2 _ _ _).symm | exact (xup_self3 _ _ _ _).symm | exact xup_self _ _ | exact xup_a | exact xup_a.symm); first | rfl | simp only [xsc_ne _ _ h101, xsc_ne _ _ h107]), (by first | rfl | trivial), (by first | rfl | trivial)⟩)
  · simp only [if_pos (show ¬ fck (I 102) (I 101 1) (sk (I 102) (I 101 1) (I 101 8)) = true from ck)]
    repeat' first | (with_reducible intro _) | (with_reducible refine And.intro ?_ ?_)
    all_goals first | omega | contradiction | (exact ⟨hT, by omega⟩) | (exact ⟨hT, by omega, h2, hrd, by omega, hss⟩) | assumption | (exact absurd (by assumption) (by assumption)) | (exact absurd (by assumption) (by omega)) | exact hrd.1 | (exact True.intro) | (exact False.elim (by assumption)) | skip
    all_goals (refine ⟨_, _, _, _, fun r => absurd r (by omega), by first | trivial | (rw [xb_f (by omega)]; done) | (rw [xb_f (fun r : False => r), xb_f (by omega)]), by first | rfl | (funext i; by_cases h101 : i = 101; (subst h101; first | rfl | exact (xcp_zero _ _ _ _).symm | exact (xup_self _ _).symm | exact (xup_self2 _ _ _).symm | exact (xup_self3 _ _ _ _).symm | exact xup_self _ _ | exact xup_a | exact xup_a.symm); by_cases h107 : i = 107; (subst h107; first | rfl | exact (xcp_zero _ _ _ _).symm | exact (xup_self _ _).symm | exact (xup_self2 _ _ _).symm | exact (xup_self3 _ _ _ _).symm | exact xup_self _ _ | exact xup_a | exact xup_a.symm); first | rfl | simp only [xsc_ne _ _ h101, xsc_ne _ _ h107]), (by first | rfl | trivial), (by first | rfl | trivial)⟩)
def fra (b : Int → Int) (n : Int) : Nat → Int → Int → (Int → Int) → Int × (Int → Int)
  | 0, _, _, rd => (1, rd)
  | r + 1, ln, p, rd => if ¬ fcw b n (sk b n p) ln (rd 0) (rd 3) (rd 4) = 0 then (fcw b n (sk b n p) ln (rd 0) (rd 3) (rd 4), rd) else if tc b n (sk b n (fcp b n (sk b n p))) = 59 then fra b n r (ln + 1) (sk b n (fcp b n (sk b n p)) + 1) (fcr b n (sk b n p) rd) else if tc b n (sk b n (fcp b n (sk b n p))) = -1 then (0, fcr b n (sk b n p) rd) else (1 + 8 * sk b n (fcp b n (sk b n p)) + 0, fcr b n (sk b n p) rd)
def RDI (rd : Int → Int) : Prop := ((rd 0 = 0 ∨ rd 0 = 1) ∧ (0 ≤ rd 3 ∧ rd 3 ≤ 10) ∧ (0 ≤ rd 4 ∧ rd 4 ≤ 5)) ∧ (0 ≤ rd 1 ∧ rd 1 ≤ 4) ∧ (0 ≤ rd 2 ∧ rd 2 ≤ 9) ∧ (∀ s, 0 ≤ s → s < 10 → 0 ≤ rd (26 + s) ∧ rd (26 + s) ≤ 3) ∧ (∀ s, 0 ≤ s → s < 10 → 0 ≤ rd (36 + s) ∧ rd (36 + s) ≤ 9) ∧ (∀ g, 0 ≤ g → g < 5 → 0 ≤ rd (46 + g) ∧ rd (46 + g) ≤ 99) ∧ (∀ j, 0 ≤ j → j < 20 → 0 ≤ rd (51 + j) ∧ rd (51 + j) ≤ 9)
theorem fwc_0 {b : Int → Int} {n a p r0 : Int} (h : fwc b n a p r0 = 0) (a0 : 0 ≤ a) (p0 : 0 ≤ p) (pn : p ≤ n) : r0 ≤ 0 ∧ nf b n (fq1 b n p) 0 4 = 0 ∧ nf b n (fqn b n (fq1 b n p)) 0 9 = 0 := by
  unfold fwc at h
  by_cases q : 0 < r0
  · rw [if_pos q] at h; omega
  · rw [if_neg q] at h
    by_cases q1 : nf b n (fq1 b n p) 0 4 = 0
    · rw [if_neg (fun r => r q1)] at h; exact ⟨by omega, q1, h⟩
    · rw [if_pos q1] at h; exact absurd h q1
theorem fws_0 {b : Int → Int} {n a p N : Int} (h : fws b n a p N = 0) (a0 : 0 ≤ a) : ¬ N = 10 ∧ nf b n (fq1 b n p) 0 3 = 0 ∧ nf b n (fqn b n (fq1 b n p)) 1 9 = 0 := by
  unfold fws at h
  by_cases q : N = 10
  · rw [if_pos q] at h; omega
  · rw [if_neg q] at h
    by_cases q1 : nf b n (fq1 b n p) 0 3 = 0
    · rw [if_neg (fun r => r q1)] at h; exact ⟨q, q1, h⟩
    · rw [if_pos q1] at h; exact absurd h q1
theorem fwg_0 {b : Int → Int} {n a p G : Int} (h : fwg b n a p G = 0) (a0 : 0 ≤ a) : ¬ G = 5 ∧ nf b n (fq1 b n p) 0 99 = 0 := by
  unfold fwg at h
  by_cases q : G = 5
  · rw [if_pos q] at h; omega
  · rw [if_neg q] at h; exact ⟨q, h⟩
theorem fwl_0 {b : Int → Int} {n p G : Int} (h : fwl b n p G = 0) : nf b n (fq1 b n p) 0 (G - 1) = 0 ∧ nf b n (fqn b n (fq1 b n p)) 0 3 = 0 ∧ nf b n (fqn b n (fqn b n (fq1 b n p))) 0 9 = 0 := by
  unfold fwl at h
  by_cases q : nf b n (fq1 b n p) 0 (G - 1) = 0
  · rw [if_neg (fun r => r q)] at h
    by_cases q1 : nf b n (fqn b n (fq1 b n p)) 0 3 = 0
    · rw [if_neg (fun r => r q1)] at h; exact ⟨q, q1, h⟩
    · rw [if_pos q1] at h; exact absurd h q1
  · rw [if_pos q] at h; exact absurd h q
theorem fcw_0 {b : Int → Int} {n q ln r0 N G : Int} (h : fcw b n q ln r0 N G = 0) (q0 : 0 ≤ q) : fck b n q = true ∧ ¬ ln = 40 ∧ fwk b n q q r0 N G = 0 := by
  unfold fcw at h
  by_cases c : fck b n q = true
  · rw [if_neg (fun r => r c)] at h
    by_cases l : ln = 40
    · rw [if_pos l] at h; omega
    · rw [if_neg l] at h; exact ⟨c, l, h⟩
  · rw [if_pos c] at h; omega
theorem RDI_fcr {b : Int → Int} {n q ln : Int} {rd : Int → Int} (hr : RDI rd) (q0 : 0 ≤ q) (qn : q ≤ n) (h : fcw b n q ln (rd 0) (rd 3) (rd 4) = 0) : RDI (fcr b n q rd) := by
  obtain ⟨_, _, hk⟩ := fcw_0 h q0
  obtain ⟨⟨r0, r3, r4⟩, r1, r2, rk, rz, ru, rl⟩ := hr
  have h1 := fq1_in (b := b) qn
  have h2 := fqn_in (b := b) h1.2
  have h3 := fqn_in (b := b) h2.2
  unfold fwk at hk
  unfold fcr
  by_cases c12 : tw b n q = 12
  · rw [if_pos c12] at hk ⊢
    obtain ⟨_, a1, a2⟩ := fwc_0 hk q0 q0 qn
    have g1 := (nf_dg a1 (by omega)).2
    have g2 := (nf_dg a2 (by omega)).2
    unfold frc lk1
    refine ⟨⟨?_, ?_, ?_⟩, ?_, ?_, fun s s0 s1 => ?_, fun s s0 s1 => ?_, fun s s0 s1 => ?_, fun s s0 s1 => ?_⟩ <;> simp only [xup] <;> (repeat' split) <;> first | omega | (have := rk s s0 s1; omega) | (have := rz s s0 s1; omega) | (have := ru s s0 s1; omega)
  · rw [if_neg c12] at hk ⊢
    have hr0 : ¬ rd 0 = 0 := fun e => by rw [if_pos e] at hk; omega
    rw [if_neg hr0] at hk
    by_cases c1 : tw b n q = 1
    · rw [if_pos c1] at hk ⊢
      obtain ⟨b1, a1, a2⟩ := fws_0 hk q0
      have g1 := (nf_dg a1 (by omega)).2
      have g2 := (nf_dg a2 (by omega)).2
      unfold frs
      refine ⟨⟨?_, ?_, ?_⟩, ?_, ?_, fun s s0 s1 => ?_, fun s s0 s1 => ?_, fun s s0 s1 => ?_, fun s s0 s1 => ?_⟩ <;> simp only [xup] <;> (repeat' split) <;> first | omega | (have := rk s s0 s1; omega) | (have := rz s s0 s1; omega) | (have := ru s s0 s1; omega) | (have := rl s s0 s1; omega)
    · rw [if_neg c1] at hk ⊢
      by_cases c0 : tw b n q = 0
      · rw [if_pos c0] at hk ⊢
        obtain ⟨b1, a1⟩ := fwg_0 hk q0
        have g1 := (nf_dg a1 (by omega)).2
        unfold frg
        refine ⟨⟨?_, ?_, ?_⟩, ?_, ?_, fun s s0 s1 => ?_, fun s s0 s1 => ?_, fun s s0 s1 => ?_, fun s s0 s1 => ?_⟩ <;> simp only [xup] <;> (repeat' split) <;> first | omega | (have := rk s s0 s1; omega) | (have := rz s s0 s1; omega) | (have := ru s s0 s1; omega) | (have := rl s s0 s1; omega)
      · rw [if_neg c0] at hk ⊢
        obtain ⟨a1, a2, a3⟩ := fwl_0 hk
        have g1 := (nf_dg a1 (by omega)).2
        have g2 := (nf_dg a2 (by omega)).2
        have g3 := (nf_dg a3 (by omega)).2
        unfold frl
        refine ⟨⟨?_, ?_, ?_⟩, ?_, ?_, fun s s0 s1 => ?_, fun s s0 s1 => ?_, fun s s0 s1 => ?_, fun s s0 s1 => ?_⟩ <;> simp only [xup] <;> (repeat' split) <;> first | omega | (have := rk s s0 s1; omega) | (have := rz s s0 s1; omega) | (have := ru s s0 s1; omega) | (have := rl s s0 s1; omega)
theorem fwk_rg {b : Int → Int} {n q r0 N G : Int} (q0 : 0 ≤ q) (qn : q ≤ n) (hn : n ≤ 400) : 0 ≤ fwk b n q q r0 N G ∧ fwk b n q q r0 N G ≤ 10000 := by
  have h1 := fq1_in (b := b) qn
  have h2 := fqn_in (b := b) h1.2
  have h3 := fqn_in (b := b) h2.2
  have a1 := fun lo hi => nf_rg (b := b) (n := n) (q := fq1 b n q) (lo := lo) (hi := hi) (by omega) (by omega)
  have a2 := fun lo hi => nf_rg (b := b) (n := n) (q := fqn b n (fq1 b n q)) (lo := lo) (hi := hi) (by omega) (by omega)
  have a3 := fun lo hi => nf_rg (b := b) (n := n) (q := fqn b n (fqn b n (fq1 b n q))) (lo := lo) (hi := hi) (by omega) (by omega)
  have e1 := a1 0 4
  have e2 := a2 0 9
  have e3 := a1 0 3
  have e4 := a2 1 9
  have e5 := a1 0 99
  have e6 := a1 0 (G - 1)
  have e7 := a2 0 3
  have e8 := a3 0 9
  unfold fwk fwc fws fwg fwl
  (repeat' split) <;> omega
theorem fcw_rg {b : Int → Int} {n q ln r0 N G : Int} (q0 : 0 ≤ q) (qn : q ≤ n) (hn : n ≤ 400) : 0 ≤ fcw b n q ln r0 N G ∧ fcw b n q ln r0 N G ≤ 10000 := by
  have := fwk_rg (b := b) (n := n) (q := q) (r0 := r0) (N := N) (G := G) q0 qn hn
  unfold fcw
  (repeat' split) <;> omega
