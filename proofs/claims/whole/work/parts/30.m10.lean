def pbo (a : Int → Int) (x y : Int) : Bool := decide ((0 ≤ a (11 + x) ∧ 0 ≤ a (11 + y) ∧ ¬ a (11 + x) = a (11 + y)) ∧ pw a (a (11 + x)) x < pw a (a (11 + x)) y ∧ pw a (a (11 + y)) y < pw a (a (11 + y)) x)
def ptwi (a : Int → Int) (x : Int) : Nat → Int × Int × Int → Int × Int × Int
  | 0, t => t
  | k + 1, t => if pbo a x (x + 1 + (k : Int)) = true then ((ptwi a x k t).1 + 1, (if (ptwi a x k t).1 = 0 then x else (ptwi a x k t).2.1), (if (ptwi a x k t).1 = 0 then x + 1 + (k : Int) else (ptwi a x k t).2.2)) else ptwi a x k t
def ptwo (a : Int → Int) : Nat → Int × Int × Int
  | 0 => (0, -2, -2)
  | n + 1 => ptwi a (n : Int) ((a 3).toNat - n - 1) (ptwo a n)
def qtwos (a : Int → Int) (what : Int) : Int := if what = 0 then (ptwo a (a 3).toNat).1 else if what = 1 then (ptwo a (a 3).toNat).2.1 else (ptwo a (a 3).toNat).2.2
theorem ptwi_rg (a : Int → Int) (x : Int) : ∀ (k : Nat) (t : Int × Int × Int), 0 ≤ t.1 → t.1 ≤ (ptwi a x k t).1 ∧ (ptwi a x k t).1 ≤ t.1 + (k : Int) := by
  intro k
  induction k with
  | zero => intro t h; exact ⟨Int.le_refl _, by show t.1 ≤ t.1 + 0; omega⟩
  | succ k ih =>
    intro t h
    have := ih t h
    unfold ptwi
    split
    · simp only; omega
    · omega
theorem ptwo_rg (a : Int → Int) : ∀ n : Nat, n ≤ (a 3).toNat → 0 ≤ (ptwo a n).1 ∧ (ptwo a n).1 ≤ (n : Int) * (a 3).toNat := by
  intro n
  induction n with
  | zero => intro _; exact ⟨by show (0 : Int) ≤ 0; decide, by show (0 : Int) ≤ ((0 : Nat) : Int) * _; simp⟩
  | succ n ih =>
    intro hn
    have h1 := ih (by omega)
    have := ptwi_rg a (n : Int) ((a 3).toNat - n - 1) (ptwo a n) h1.1
    have e : ((n + 1 : Nat) : Int) * ((a 3).toNat : Int) = (n : Int) * ((a 3).toNat : Int) + ((a 3).toNat : Int) := by
      rw [show ((n + 1 : Nat) : Int) = (n : Int) + 1 by omega, Int.add_mul, Int.one_mul]
    unfold ptwo
    omega
set_option maxRecDepth 8000 in
theorem sg_227_0 {d : Nat} {I : XI} {L : XL} {D : GD} {post : XQ}  {u1 : Int} {u2 : Int} (h : xR d 227 es_227 3 [xr (some 101), xi u1, xi u2, xt 0, xt 0] [xi u2, xi u1, xr (some 101)] I L (gG D) 0 0 post) : xR d 227 es_227 0 [xr (some 101), xi u1, xi u2, xt 0, xt 0] [] I L (gG D) 0 0 post := xW_R (fun k => Nat.beq k 3 || Nat.beq k 24 || Nat.beq k 28 || Nat.beq k 33 || Nat.beq k 37) 3 _ _ _ _ _ _ _ _ _ _ _ _ h
set_option maxRecDepth 8000 in
theorem sg_227_4 {d : Nat} {I : XI} {L : XL} {D : GD} {post : XQ}  {u1 : Int} {u2 : Int} {w0 : Int} (h : ((-2147483648 ≤ w0 ∧ w0 ≤ 2147483647) ∧ ((¬ w0 = 0 → ((0 ≤ ((11 : Int) + u1) ∧ ((11 : Int) + u1) < (102 : Int)) ∧ ((0 ≤ ((11 : Int) + u2) ∧ ((11 : Int) + u2) < (102 : Int)) ∧ xR d 227 es_227 24 [xr (some 101), xi u1, xi u2, xi (I 111 ((11 : Int) + u1)), xi (I 111 ((11 : Int) + u2))] [xi u2, xi (I 111 ((11 : Int) + u1)), xr (some 101)] I L (gG D) 0 0 post))) ∧ (w0 = 0 → (((0 : Int) = 0 ∨ (0 : Int) = 1) ∧ post (some (xi (0 : Int))) I L (gG D)))))) : xR d 227 es_227 4 [xr (some 101), xi u1, xi u2, xt 0, xt 0] [xi w0] I L (gG D) 0 0 post := xW_R (fun k => Nat.beq k 3 || Nat.beq k 24 || Nat.beq k 28 || Nat.beq k 33 || Nat.beq k 37) 18 _ _ _ _ _ _ _ _ _ _ _ _ h
set_option maxRecDepth 8000 in
theorem sg_227_25 {d : Nat} {I : XI} {L : XL} {D : GD} {post : XQ}  {u1 : Int} {u2 : Int} {u3 : Int} {u4 : Int} {w0 : Int} (h : xR d 227 es_227 28 [xr (some 101), xi u1, xi u2, xi u3, xi u4] [xi u1, xi u3, xr (some 101), xi w0] I L (gG D) 0 0 post) : xR d 227 es_227 25 [xr (some 101), xi u1, xi u2, xi u3, xi u4] [xi w0] I L (gG D) 0 0 post := xW_R (fun k => Nat.beq k 3 || Nat.beq k 24 || Nat.beq k 28 || Nat.beq k 33 || Nat.beq k 37) 3 _ _ _ _ _ _ _ _ _ _ _ _ h
set_option maxRecDepth 8000 in
theorem sg_227_29 {d : Nat} {I : XI} {L : XL} {D : GD} {post : XQ}  {u1 : Int} {u2 : Int} {u3 : Int} {u4 : Int} {w0 : Int} {w1 : Int} (h : (((-2147483648 ≤ w0 ∧ w0 ≤ 2147483647) ∧ (-2147483648 ≤ w1 ∧ w1 ≤ 2147483647)) ∧ ((w0 ≤ w1 → (((0 : Int) = 0 ∨ (0 : Int) = 1) ∧ post (some (xi (0 : Int))) I L (gG D))) ∧ (w1 < w0 → xR d 227 es_227 33 [xr (some 101), xi u1, xi u2, xi u3, xi u4] [xi u1, xi u4, xr (some 101)] I L (gG D) 0 0 post)))) : xR d 227 es_227 29 [xr (some 101), xi u1, xi u2, xi u3, xi u4] [xi w1, xi w0] I L (gG D) 0 0 post := xW_R (fun k => Nat.beq k 3 || Nat.beq k 24 || Nat.beq k 28 || Nat.beq k 33 || Nat.beq k 37) 4 _ _ _ _ _ _ _ _ _ _ _ _ h
set_option maxRecDepth 8000 in
theorem sg_227_34 {d : Nat} {I : XI} {L : XL} {D : GD} {post : XQ}  {u1 : Int} {u2 : Int} {u3 : Int} {u4 : Int} {w0 : Int} (h : xR d 227 es_227 37 [xr (some 101), xi u1, xi u2, xi u3, xi u4] [xi u2, xi u4, xr (some 101), xi w0] I L (gG D) 0 0 post) : xR d 227 es_227 34 [xr (some 101), xi u1, xi u2, xi u3, xi u4] [xi w0] I L (gG D) 0 0 post := xW_R (fun k => Nat.beq k 3 || Nat.beq k 24 || Nat.beq k 28 || Nat.beq k 33 || Nat.beq k 37) 3 _ _ _ _ _ _ _ _ _ _ _ _ h
set_option maxRecDepth 8000 in
theorem sg_227_38 {d : Nat} {I : XI} {L : XL} {D : GD} {post : XQ}  {u1 : Int} {u2 : Int} {u3 : Int} {u4 : Int} {w0 : Int} {w1 : Int} (h : (((-2147483648 ≤ w0 ∧ w0 ≤ 2147483647) ∧ (-2147483648 ≤ w1 ∧ w1 ≤ 2147483647)) ∧ ((w0 ≤ w1 → (((0 : Int) = 0 ∨ (0 : Int) = 1) ∧ post (some (xi (0 : Int))) I L (gG D))) ∧ (w1 < w0 → (((1 : Int) = 0 ∨ (1 : Int) = 1) ∧ post (some (xi (1 : Int))) I L (gG D)))))) : xR d 227 es_227 38 [xr (some 101), xi u1, xi u2, xi u3, xi u4] [xi w1, xi w0] I L (gG D) 0 0 post := xW_R (fun k => Nat.beq k 3 || Nat.beq k 24 || Nat.beq k 28 || Nat.beq k 33 || Nat.beq k 37) 4 _ _ _ _ _ _ _ _ _ _ _ _ h
set_option maxRecDepth 8000 in
theorem w_227 {d : Nat} {I : XI} {L : XL} {D : GD} {post : XQ}   {ax : Int} {by_ : Int} (hd : 2 ≤ d) (h : ((SO (I 111) ∧ (0 ≤ ax ∧ ax < 10) ∧ (0 ≤ by_ ∧ by_ < 10)) ∧ (((0 ≤ I 111 (11 + ax) ∧ 0 ≤ I 111 (11 + by_) ∧ ¬ I 111 (11 + ax) = I 111 (11 + by_) → (((0 ≤ ((11 : Int) + ax) ∧ ((11 : Int) + ax) < (102 : Int))) ∧ (((0 ≤ ((11 : Int) + by_) ∧ ((11 : Int) + by_) < (102 : Int))) ∧ ((SO (I 111) ∧ (0 ≤ (I 111 ((11 : Int) + ax)) ∧ (I 111 ((11 : Int) + ax)) < 5) ∧ (0 ≤ by_ ∧ by_ < 10)) ∧ ((SO (I 111) ∧ (0 ≤ (I 111 ((11 : Int) + ax)) ∧ (I 111 ((11 : Int) + ax)) < 5) ∧ (0 ≤ ax ∧ ax < 10)) ∧ (((-2147483648 ≤ (pw (I 111) (I 111 ((11 : Int) + ax)) by_) ∧ (pw (I 111) (I 111 ((11 : Int) + ax)) by_) ≤ 2147483647) ∧ (-2147483648 ≤ (pw (I 111) (I 111 ((11 : Int) + ax)) ax) ∧ (pw (I 111) (I 111 ((11 : Int) + ax)) ax) ≤ 2147483647)) ∧ (((pw (I 111) (I 111 ((11 : Int) + ax)) by_) ≤ (pw (I 111) (I 111 ((11 : Int) + ax)) ax) → post (some (xi (0 : Int))) I L (gG D)) ∧ ((pw (I 111) (I 111 ((11 : Int) + ax)) ax) < (pw (I 111) (I 111 ((11 : Int) + ax)) by_) → ((SO (I 111) ∧ (0 ≤ (I 111 ((11 : Int) + by_)) ∧ (I 111 ((11 : Int) + by_)) < 5) ∧ (0 ≤ ax ∧ ax < 10)) ∧ ((SO (I 111) ∧ (0 ≤ (I 111 ((11 : Int) + by_)) ∧ (I 111 ((11 : Int) + by_)) < 5) ∧ (0 ≤ by_ ∧ by_ < 10)) ∧ (((-2147483648 ≤ (pw (I 111) (I 111 ((11 : Int) + by_)) ax) ∧ (pw (I 111) (I 111 ((11 : Int) + by_)) ax) ≤ 2147483647) ∧ (-2147483648 ≤ (pw (I 111) (I 111 ((11 : Int) + by_)) by_) ∧ (pw (I 111) (I 111 ((11 : Int) + by_)) by_) ≤ 2147483647)) ∧ (((pw (I 111) (I 111 ((11 : Int) + by_)) ax) ≤ (pw (I 111) (I 111 ((11 : Int) + by_)) by_) → post (some (xi (0 : Int))) I L (gG D)) ∧ ((pw (I 111) (I 111 ((11 : Int) + by_)) by_) < (pw (I 111) (I 111 ((11 : Int) + by_)) ax) → post (some (xi (1 : Int))) I L (gG D)))))))))))))) ∧ (¬ (0 ≤ I 111 (11 + ax) ∧ 0 ≤ I 111 (11 + by_) ∧ ¬ I 111 (11 + ax) = I 111 (11 + by_)) → post (some (xi (0 : Int))) I L (gG D)))))) : xR d 227 es_227 0 [xr (some 101), xi ax, xi by_, xt 0, xt 0] [] I L (gG D) 0 0 post := sg_227_0  ((xR_cF rfl rfl rfl (c_216 h.1) (by omega) (sg_227_4  ⟨(xb_rg _), ⟨fun q402 => ⟨(h.2.1 (xb_n0 q402)).1, ⟨(h.2.1 (xb_n0 q402)).2.1, (xR_cF rfl rfl rfl (c_196 (h.2.1 (xb_n0 q402)).2.2.1) (by omega) (sg_227_25  (xR_cF rfl rfl rfl (c_196 (h.2.1 (xb_n0 q402)).2.2.2.1) (by omega) (sg_227_29  ⟨⟨(h.2.1 (xb_n0 q402)).2.2.2.2.1.1, (h.2.1 (xb_n0 q402)).2.2.2.2.1.2⟩, ⟨fun q400 => ⟨(by decide), ((h.2.1 (xb_n0 q402)).2.2.2.2.2.1 q400)⟩, fun q401 => (xR_cF rfl rfl rfl (c_196 ((h.2.1 (xb_n0 q402)).2.2.2.2.2.2 q401).1) (by omega) (sg_227_34  (xR_cF rfl rfl rfl (c_196 ((h.2.1 (xb_n0 q402)).2.2.2.2.2.2 q401).2.1) (by omega) (sg_227_38  ⟨⟨((h.2.1 (xb_n0 q402)).2.2.2.2.2.2 q401).2.2.1.1, ((h.2.1 (xb_n0 q402)).2.2.2.2.2.2 q401).2.2.1.2⟩, ⟨fun q398 => ⟨(by decide), (((h.2.1 (xb_n0 q402)).2.2.2.2.2.2 q401).2.2.2.1 q398)⟩, fun q399 => ⟨(by decide), (((h.2.1 (xb_n0 q402)).2.2.2.2.2.2 q401).2.2.2.2 q399)⟩⟩⟩))))⟩⟩))))⟩⟩, fun q403 => ⟨(by decide), (h.2.2 (xb_0 q403))⟩⟩⟩)))
theorem c_227 {I : XI} {L : XL} {D : GD}   {ax : Int} {by_ : Int} (h : (SO (I 111) ∧ (0 ≤ ax ∧ ax < 10) ∧ (0 ≤ by_ ∧ by_ < 10))) : xM 2 227 [xr (some 101), xi ax, xi by_] I L (gG D) (0, 0) (xD (some (xi (xb (pbo (I 111) ax by_ = true)))) I L (gG D)) := by
  intro d hd
  obtain ⟨hS, ha, hb⟩ := h
  have h1 := hS.w ha.1 ha.2
  have h2 := hS.w hb.1 hb.2
  have h4 := hS.g
  have e1 := fun h0 : 0 ≤ I 111 (11 + ax) => pw_rg hS (s := ax) h0 (by omega) ha.1 ha.2
  have e2 := fun h0 : 0 ≤ I 111 (11 + ax) => pw_rg hS (s := by_) h0 (by omega) hb.1 hb.2
  have e3 := fun h0 : 0 ≤ I 111 (11 + by_) => pw_rg hS (s := ax) h0 (by omega) ha.1 ha.2
  have e4 := fun h0 : 0 ≤ I 111 (11 + by_) => pw_rg hS (s := by_) h0 (by omega) hb.1 hb.2
  refine w_227 (by omega) ?_
  repeat' first | (with_reducible intro _) | (with_reducible refine And.intro ?_ ?_)
  all_goals first | omega | (exact ⟨hS, ha, hb⟩) | (exact ⟨hS, by omega, by omega⟩) | (have := e1 (by omega); have := e2 (by omega); have := e3 (by omega); have := e4 (by omega); omega) | skip
  all_goals (refine xD_eq ?_ rfl rfl; first | (rw [xb_t (by unfold pbo; rw [decide_eq_true_eq]; omega)]; done) | (rw [xb_f (by unfold pbo; rw [decide_eq_true_eq]; omega)]; done))
set_option maxRecDepth 8000 in
theorem sg_228_0 {d : Nat} {I : XI} {L : XL} {D : GD} {post : XQ}  {u1 : Int} (h : xR d 228 es_228 1 [xr (some 101), xi u1, xt 0, xt 0, xt 0, xt 0, xt 0] [xr (some 101)] I L (gG D) 0 0 post) : xR d 228 es_228 0 [xr (some 101), xi u1, xt 0, xt 0, xt 0, xt 0, xt 0] [] I L (gG D) 0 0 post := xW_R (fun k => Nat.beq k 1 || Nat.beq k 7 || Nat.beq k 19 || Nat.beq k 29 || Nat.beq k 38) 1 _ _ _ _ _ _ _ _ _ _ _ _ h
set_option maxRecDepth 8000 in
theorem sg_228_2 {d : Nat} {I : XI} {L : XL} {D : GD} {post : XQ}  {u1 : Int} {w0 : Int} (h : ((-2147483648 ≤ w0 ∧ w0 ≤ 2147483647) ∧ ((w0 = 0 → post (some (xi (-1 : Int))) I L (gG D)) ∧ (¬ w0 = 0 → ((-2147483648 ≤ u1 ∧ u1 ≤ 2147483647) ∧ xR d 228 es_228 7 [xr (some 101), xi u1, xt 0, xt 0, xt 0, xt 0, xt 0] [xl (Int64.ofInt 2), xl (0 : Int64), xl (Int64.ofInt u1)] I L (gG D) 0 0 post))))) : xR d 228 es_228 2 [xr (some 101), xi u1, xt 0, xt 0, xt 0, xt 0, xt 0] [xi w0] I L (gG D) 0 0 post := xW_R (fun k => Nat.beq k 1 || Nat.beq k 7 || Nat.beq k 19 || Nat.beq k 29 || Nat.beq k 38) 5 _ _ _ _ _ _ _ _ _ _ _ _ h
set_option maxRecDepth 8000 in
theorem sg_228_8 {d : Nat} {I : XI} {L : XL} {D : GD} {post : XQ}  {u1 : Int} {w0 : Int} (h : ((-2147483648 ≤ w0 ∧ w0 ≤ 2147483647) ∧ ((¬ w0 = 0 → xR d 228 es_228 19 [xr (some 101), xi u1, xi (0 : Int), xi (-2 : Int), xi (-2 : Int), xi (0 : Int), xt 0] [] I L (gG D) 0 0 post) ∧ (w0 = 0 → post (some (xi (-1 : Int))) I L (gG D))))) : xR d 228 es_228 8 [xr (some 101), xi u1, xt 0, xt 0, xt 0, xt 0, xt 0] [xi w0] I L (gG D) 0 0 post := xW_R (fun k => Nat.beq k 1 || Nat.beq k 7 || Nat.beq k 19 || Nat.beq k 29 || Nat.beq k 38) 9 _ _ _ _ _ _ _ _ _ _ _ _ h
set_option maxRecDepth 8000 in
theorem w_228 {d : Nat} {I : XI} {L : XL} {D : GD} {post : XQ}   {what : Int} (hd : 1 ≤ d) (h : (SO (I 111) ∧ (((¬ (I 111 (0 : Int) = 1) → post (some (xi (-1 : Int))) I L (gG D)) ∧ (I 111 (0 : Int) = 1 → (((-2147483648 ≤ what ∧ what ≤ 2147483647)) ∧ (((-2147483648 ≤ what ∧ what ≤ 2147483647) ∧ (-2147483648 ≤ (0 : Int) ∧ (0 : Int) ≤ 2147483647) ∧ (-2147483648 ≤ (2 : Int) ∧ (2 : Int) ≤ 2147483647)) ∧ ((((0 : Int) ≤ what ∧ what ≤ (2 : Int) → xR d 228 es_228 19 [xr (some 101), xi what, xi (0 : Int), xi (-2 : Int), xi (-2 : Int), xi (0 : Int), xt 0] [] I L (gG D) 0 0 post) ∧ (¬ ((0 : Int) ≤ what ∧ what ≤ (2 : Int)) → post (some (xi (-1 : Int))) I L (gG D))))))))))) : xR d 228 es_228 0 [xr (some 101), xi what, xt 0, xt 0, xt 0, xt 0, xt 0] [] I L (gG D) 0 0 post := sg_228_0  ((xR_cF rfl rfl rfl (c_192 h.1) (by omega) (sg_228_2  ⟨(xb_rg _), ⟨fun q406 => (h.2.1 (xb_0 q406)), fun q407 => ⟨(h.2.2 (xb_n0 q407)).1, (xR_cF rfl rfl rfl (c_147 (h.2.2 (xb_n0 q407)).2.1) (by omega) (sg_228_8  ⟨(xb_rg _), ⟨fun q404 => ((h.2.2 (xb_n0 q407)).2.2.1 (xb_n0 q404)), fun q405 => ((h.2.2 (xb_n0 q407)).2.2.2 (xb_0 q405))⟩⟩))⟩⟩⟩)))
set_option maxRecDepth 8000 in
theorem sg_228_19 {d : Nat} {I : XI} {L : XL} {D : GD} {post : XQ}  {u1 : Int} {u2 : Int} {u3 : Int} {u4 : Int} {u5 : Int} {u6 : XV} (h : ((0 ≤ (3 : Int) ∧ (3 : Int) < (102 : Int)) ∧ (((-2147483648 ≤ u5 ∧ u5 ≤ 2147483647) ∧ (-2147483648 ≤ (I 111 (3 : Int)) ∧ (I 111 (3 : Int)) ≤ 2147483647)) ∧ (((I 111 (3 : Int)) ≤ u5 → ((-2147483648 ≤ u1 ∧ u1 ≤ 2147483647) ∧ ((¬ u1 = 0 → (((-2147483648 ≤ u1 ∧ u1 ≤ 2147483647) ∧ (-2147483648 ≤ (1 : Int) ∧ (1 : Int) ≤ 2147483647)) ∧ ((¬ u1 = (1 : Int) → post (some (xi u4)) I L (gG D)) ∧ (u1 = (1 : Int) → post (some (xi u3)) I L (gG D))))) ∧ (u1 = 0 → post (some (xi u2)) I L (gG D))))) ∧ (u5 < (I 111 (3 : Int)) → xR d 228 es_228 29 [xr (some 101), xi u1, xi u2, xi u3, xi u4, xi u5, xi (u5 + (1 : Int))] [] I L (gG D) 0 0 post))))) : xR d 228 es_228 19 [xr (some 101), xi u1, xi u2, xi u3, xi u4, xi u5, u6] [] I L (gG D) 0 0 post := xW_R (fun k => Nat.beq k 1 || Nat.beq k 7 || Nat.beq k 19 || Nat.beq k 29 || Nat.beq k 38) 14 _ _ _ _ _ _ _ _ _ _ _ _ h
set_option maxRecDepth 8000 in
theorem b_228 {d : Nat} {I : XI} {L : XL} {D : GD} {post : XQ}   {what : Int} {mn : Int} {fi : Int} {se : Int} {ax : Int} {x6 : XV} (hd : 0 ≤ d) (h : (((-2147483648 ≤ ax ∧ ax ≤ 2147483647) ∧ (-2147483648 ≤ (I 111 (3 : Int)) ∧ (I 111 (3 : Int)) ≤ 2147483647)) ∧ (((I 111 (3 : Int)) ≤ ax → (((-2147483648 ≤ what ∧ what ≤ 2147483647)) ∧ ((¬ what = 0 → (((¬ what = (1 : Int) → post (some (xi se)) I L (gG D)) ∧ (what = (1 : Int) → post (some (xi fi)) I L (gG D))))) ∧ (what = 0 → post (some (xi mn)) I L (gG D))))) ∧ (ax < (I 111 (3 : Int)) → xR d 228 es_228 29 [xr (some 101), xi what, xi mn, xi fi, xi se, xi ax, xi (ax + (1 : Int))] [] I L (gG D) 0 0 post)))) : xR d 228 es_228 19 [xr (some 101), xi what, xi mn, xi fi, xi se, xi ax, x6] [] I L (gG D) 0 0 post := sg_228_19  (⟨(by decide), ⟨⟨h.1.1, h.1.2⟩, ⟨fun q412 => ⟨(h.2.1 q412).1, ⟨fun q410 => ⟨⟨(h.2.1 q412).1, (by decide)⟩, ⟨fun q408 => (((h.2.1 q412).2.1 q410).1 q408), fun q409 => (((h.2.1 q412).2.1 q410).2 q409)⟩⟩, fun q411 => ((h.2.1 q412).2.2 q411)⟩⟩, fun q413 => (h.2.2 q413)⟩⟩⟩)
set_option maxRecDepth 8000 in
theorem sg_228_29 {d : Nat} {I : XI} {L : XL} {D : GD} {post : XQ}  {u1 : Int} {u2 : Int} {u3 : Int} {u4 : Int} {u5 : Int} {u6 : Int} (h : ((0 ≤ (3 : Int) ∧ (3 : Int) < (102 : Int)) ∧ (((-2147483648 ≤ u6 ∧ u6 ≤ 2147483647) ∧ (-2147483648 ≤ (I 111 (3 : Int)) ∧ (I 111 (3 : Int)) ≤ 2147483647)) ∧ (((I 111 (3 : Int)) ≤ u6 → xR d 228 es_228 19 [xr (some 101), xi u1, xi u2, xi u3, xi u4, xi (u5 + (1 : Int)), xi u6] [] I L (gG D) 0 0 post) ∧ (u6 < (I 111 (3 : Int)) → xR d 228 es_228 38 [xr (some 101), xi u1, xi u2, xi u3, xi u4, xi u5, xi u6] [xi u6, xi u5, xr (some 101)] I L (gG D) 0 0 post))))) : xR d 228 es_228 29 [xr (some 101), xi u1, xi u2, xi u3, xi u4, xi u5, xi u6] [] I L (gG D) 0 0 post := xW_R (fun k => Nat.beq k 1 || Nat.beq k 7 || Nat.beq k 19 || Nat.beq k 29 || Nat.beq k 38) 9 _ _ _ _ _ _ _ _ _ _ _ _ h
set_option maxRecDepth 8000 in
theorem sg_228_39 {d : Nat} {I : XI} {L : XL} {D : GD} {post : XQ}  {u1 : Int} {u2 : Int} {u3 : Int} {u4 : Int} {u5 : Int} {u6 : Int} {w0 : Int} (h : ((-2147483648 ≤ w0 ∧ w0 ≤ 2147483647) ∧ ((¬ w0 = 0 → ((-2147483648 ≤ u2 ∧ u2 ≤ 2147483647) ∧ ((¬ u2 = 0 → xR d 228 es_228 29 [xr (some 101), xi u1, xi (u2 + (1 : Int)), xi u3, xi u4, xi u5, xi (u6 + (1 : Int))] [] I L (gG D) 0 0 post) ∧ (u2 = 0 → xR d 228 es_228 29 [xr (some 101), xi u1, xi (u2 + (1 : Int)), xi u5, xi u6, xi u5, xi (u6 + (1 : Int))] [] I L (gG D) 0 0 post)))) ∧ (w0 = 0 → xR d 228 es_228 29 [xr (some 101), xi u1, xi u2, xi u3, xi u4, xi u5, xi (u6 + (1 : Int))] [] I L (gG D) 0 0 post)))) : xR d 228 es_228 39 [xr (some 101), xi u1, xi u2, xi u3, xi u4, xi u5, xi u6] [xi w0] I L (gG D) 0 0 post := xW_R (fun k => Nat.beq k 1 || Nat.beq k 7 || Nat.beq k 19 || Nat.beq k 29 || Nat.beq k 38) 10 _ _ _ _ _ _ _ _ _ _ _ _ h
set_option maxRecDepth 8000 in
theorem b_228i {d : Nat} {I : XI} {L : XL} {D : GD} {post : XQ}   {what : Int} {mn : Int} {fi : Int} {se : Int} {ax : Int} {by_ : Int} (hd : 3 ≤ d) (h : (((-2147483648 ≤ by_ ∧ by_ ≤ 2147483647) ∧ (-2147483648 ≤ (I 111 (3 : Int)) ∧ (I 111 (3 : Int)) ≤ 2147483647)) ∧ (((I 111 (3 : Int)) ≤ by_ → xR d 228 es_228 19 [xr (some 101), xi what, xi mn, xi fi, xi se, xi (ax + (1 : Int)), xi by_] [] I L (gG D) 0 0 post) ∧ (by_ < (I 111 (3 : Int)) → ((SO (I 111) ∧ (0 ≤ ax ∧ ax < 10) ∧ (0 ≤ by_ ∧ by_ < 10)) ∧ (((pbo (I 111) ax by_ = true → (((-2147483648 ≤ mn ∧ mn ≤ 2147483647)) ∧ ((¬ mn = 0 → xR d 228 es_228 29 [xr (some 101), xi what, xi (mn + (1 : Int)), xi fi, xi se, xi ax, xi (by_ + (1 : Int))] [] I L (gG D) 0 0 post) ∧ (mn = 0 → xR d 228 es_228 29 [xr (some 101), xi what, xi (mn + (1 : Int)), xi ax, xi by_, xi ax, xi (by_ + (1 : Int))] [] I L (gG D) 0 0 post)))) ∧ (¬ (pbo (I 111) ax by_ = true) → xR d 228 es_228 29 [xr (some 101), xi what, xi mn, xi fi, xi se, xi ax, xi (by_ + (1 : Int))] [] I L (gG D) 0 0 post)))))))) : xR d 228 es_228 29 [xr (some 101), xi what, xi mn, xi fi, xi se, xi ax, xi by_] [] I L (gG D) 0 0 post := sg_228_29  (⟨(by decide), ⟨⟨h.1.1, h.1.2⟩, ⟨fun q418 => (h.2.1 q418), fun q419 => (xR_cF rfl rfl rfl (c_227 (h.2.2 q419).1) (by omega) (sg_228_39  ⟨(xb_rg _), ⟨fun q416 => ⟨((h.2.2 q419).2.1 (xb_n0 q416)).1, ⟨fun q414 => (((h.2.2 q419).2.1 (xb_n0 q416)).2.1 q414), fun q415 => (((h.2.2 q419).2.1 (xb_n0 q416)).2.2 q415)⟩⟩, fun q417 => ((h.2.2 q419).2.2 (xb_0 q417))⟩⟩))⟩⟩⟩)
theorem lp_228 {I : XI} {L : XL} {D : GD} {d : Nat} {post : XQ} {what ax : Int} {t : Int × Int × Int} (hd : 3 ≤ d) (hS : SO (I 111)) (hx : 0 ≤ ax ∧ ax < I 111 3) (ht : 0 ≤ t.1 ∧ t.1 ≤ 1000) (hc : ∀ x6 : XV, xR d 228 es_228 19 [xr (some 101), xi what, xi (ptwi (I 111) ax ((I 111 3).toNat - ax.toNat - 1) t).1, xi (ptwi (I 111) ax ((I 111 3).toNat - ax.toNat - 1) t).2.1, xi (ptwi (I 111) ax ((I 111 3).toNat - ax.toNat - 1) t).2.2, xi (ax + 1), x6] [] I L (gG D) 0 0 post) : xR d 228 es_228 29 [xr (some 101), xi what, xi t.1, xi t.2.1, xi t.2.2, xi ax, xi (ax + 1)] [] I L (gG D) 0 0 post := by
  have hn := hS.n
  have key : ∀ k : Nat, k ≤ ((I 111 3).toNat - ax.toNat - 1) → xR d 228 es_228 29 [xr (some 101), xi what, xi (ptwi (I 111) ax k t).1, xi (ptwi (I 111) ax k t).2.1, xi (ptwi (I 111) ax k t).2.2, xi ax, xi (ax + 1 + (k : Int))] [] I L (gG D) 0 0 (post) := by
    refine xfor ?_ ?_
    · refine b_228i (by omega) ?_
      repeat' first | (with_reducible intro _) | (with_reducible refine And.intro ?_ ?_)
      all_goals first | omega | assumption | skip
      exact hc _
    · intro k hk ih 
      have hr := ptwi_rg (I 111) ax k t ht.1
      have hG : SO (I 111) ∧ (0 ≤ ax ∧ ax < 10) ∧ (0 ≤ ax + 1 + (k : Int) ∧ ax + 1 + (k : Int) < 10) := ⟨hS, by omega, by omega⟩
      have e : ptwi (I 111) ax (k + 1) t = if pbo (I 111) ax (ax + 1 + (k : Int)) = true then ((ptwi (I 111) ax k t).1 + 1, (if (ptwi (I 111) ax k t).1 = 0 then ax else (ptwi (I 111) ax k t).2.1), (if (ptwi (I 111) ax k t).1 = 0 then ax + 1 + (k : Int) else (ptwi (I 111) ax k t).2.2)) else ptwi (I 111) ax k t := rfl
      rw [show ax + 1 + ((k + 1 : Nat) : Int) = ax + 1 + (k : Int) + 1 by omega] at ih
      refine b_228i (by omega) ?_
      repeat' first | (with_reducible intro _) | (with_reducible refine And.intro ?_ ?_)
      all_goals first | omega | assumption | skip
      all_goals first
        | (rw [if_neg (by assumption)] at e; rw [e] at ih; exact ih)
        | (rw [if_pos (by assumption), if_pos (by assumption), if_pos (by assumption)] at e; rw [e] at ih; exact ih)
        | (rw [if_pos (by assumption), if_neg (by assumption), if_neg (by assumption)] at e; rw [e] at ih; exact ih)
  have := key 0 (Nat.zero_le _)
  rw [show ax + 1 + ((0 : Nat) : Int) = ax + 1 by omega] at this
  exact this
theorem c_228 {I : XI} {L : XL} {D : GD}   {what : Int} (h : (SO (I 111) ∧ (-2147483648 ≤ what ∧ what ≤ 2147483647))) : xM 3 228 [xr (some 101), xi what] I L (gG D) (0, 0) (xD (some (xi (if I 111 (0 : Int) = 1 ∧ (0 ≤ what ∧ what ≤ 2) then qtwos (I 111) what else -1))) I L (gG D)) := by
  intro d hd
  obtain ⟨hS, h1⟩ := h
  have hn := hS.n
  have hg := hS.g
  have hf := hS.f
  refine w_228 (by omega) ?_
  by_cases hc : I 111 (0 : Int) = 1 ∧ (0 ≤ what ∧ what ≤ 2)
  · simp only [if_pos hc]
    have key : ∀ k : Nat, k ≤ (I 111 3).toNat → ∀ (x6 : XV), xR d 228 es_228 19 [xr (some 101), xi what, xi (ptwo (I 111) k).1, xi (ptwo (I 111) k).2.1, xi (ptwo (I 111) k).2.2, xi (k : Int), x6] [] I L (gG D) 0 0 (xD (some (xi (qtwos (I 111) what))) I L (gG D)) := by
      refine xfor ?_ ?_
      · intro x6
        refine b_228 (by omega) ?_
        repeat' first | (with_reducible intro _) | (with_reducible refine And.intro ?_ ?_)
        all_goals first | omega | assumption | skip
        all_goals (refine xD_eq ?_ rfl rfl; unfold qtwos; (repeat' split) <;> first | rfl | omega)
      · intro k hk ih x6
        have hr := ptwo_rg (I 111) k (by omega)
        have hb : (k : Int) * ((I 111 3).toNat : Int) ≤ 10 * 10 := Int.mul_le_mul (by omega) (by omega) (by omega) (by omega)
        refine b_228 (by omega) ?_
        repeat' first | (with_reducible intro _) | (with_reducible refine And.intro ?_ ?_)
        all_goals first | omega | assumption | skip
        refine lp_228 (by omega) hS (by omega) (by omega) ?_
        rw [Int.toNat_natCast]
        exact ih
    repeat' first | (with_reducible intro _) | (with_reducible refine And.intro ?_ ?_)
    all_goals first | omega | assumption | exact xD_in | skip
    exact key 0 (Nat.zero_le _) _
  · simp only [if_neg hc]
    repeat' first | (with_reducible intro _) | (with_reducible refine And.intro ?_ ?_)
    all_goals first | omega | assumption | (exact xD_eq rfl rfl rfl) | skip
theorem lays_back2 {a a2 b c : Int → Int} (h : ∀ j, (j < 10 ∨ 26 ≤ j) → b j = a2 j) (h2 : ∀ j, 10 ≤ j → j < 26 → a j = a2 j) : xcp (xcp a c 10 0 16) b 0 10 16 = a2 := by
  funext j
  by_cases hj : 10 ≤ j ∧ j < 26
  · rw [xcp_in (by omega), xcp_in (by omega), h2 _ (by omega) (by omega)]
    congr 1
    omega
  · rw [xcp_out (by omega)]
    exact h j (by omega)
theorem SO_first {a : Int → Int} (h : SO a) {g : Int} (g0 : 0 ≤ g) (g1 : g ≤ 4) : SO (xup a 1 g) := by
  obtain ⟨h3, h4, h5, h6, h7, h8, h9, h10, h11, h12, h13, h14⟩ := h
  refine ⟨h3, h4, h5, ⟨g0, g1⟩, h7, h8, ?_, ?_, ?_, ?_, ?_, ?_⟩
  · intro s a b; have hq := h9 s a b; (repeat rw [xup_ne _ _ (by omega)]); exact hq
  · intro s a b; rw [xup_ne _ _ (by omega)]; exact h10 s a b
  · intro s a b; rw [xup_ne _ _ (by omega)]; exact h11 s a b
  · intro s a b; rw [xup_ne _ _ (by omega)]; exact h12 s a b
  · intro s a b; rw [xup_ne _ _ (by omega)]; exact h13 s a b
  · intro s a b; rw [xup_ne _ _ (by omega)]; exact h14 s a b
theorem SO_rue {a : Int → Int} (h : SO a) {g r : Int} (g0 : 0 ≤ g) (g1 : g < 5) (r0 : 0 ≤ r) (r1 : r ≤ 99) : SO (xup a (21 + g) r) := by
  obtain ⟨h3, h4, h5, h6, h7, h8, h9, h10, h11, h12, h13, h14⟩ := h
  refine ⟨?_, ?_, ?_, ?_, ?_, ?_, ?_, ?_, ?_, ?_, ?_, ?_⟩
  · rw [xup_ne _ _ (by omega)]; exact h3
  · rw [xup_ne _ _ (by omega)]; exact h4
  · rw [xup_ne _ _ (by omega)]; exact h5
  · rw [xup_ne _ _ (by omega)]; exact h6
  · rw [xup_ne _ _ (by omega)]; exact h7
  · rw [xup_ne _ _ (by omega)]; exact h8
  · intro s a b; have hq := h9 s a b; (repeat rw [xup_ne _ _ (by omega)]); exact hq
  · intro s2 a2 b2
    by_cases hs : s2 = g
    · subst hs; rw [xup_same]; exact ⟨r0, r1⟩
    · rw [xup_ne _ _ (by omega)]; exact h10 s2 a2 b2
  · intro s a b; rw [xup_ne _ _ (by omega)]; exact h11 s a b
  · intro s a b; rw [xup_ne _ _ (by omega)]; exact h12 s a b
  · intro s a b; rw [xup_ne _ _ (by omega)]; exact h13 s a b
  · intro s a b; rw [xup_ne _ _ (by omega)]; exact h14 s a b
def pbgm (f : Int) (R : (Int → Int64) → Int64) (kk : Int) (a : Int → Int) (gu n g : Int) : Int := phas (ppassn f R kk n.toNat (xup a 1 g)) gu
def pbg (f : Int) (R : (Int → Int64) → Int64) (kk : Int) (a : Int → Int) (gu n : Int) : Nat → Int × Int
  | 0 => (-1, -1)
  | k + 1 => if (pbg f R kk a gu n k).2 < pbgm f R kk a gu n (k : Int) then ((k : Int), pbgm f R kk a gu n (k : Int)) else pbg f R kk a gu n k
def qbegin (f : Int) (R : (Int → Int64) → Int64) (kk : Int) (a : Int → Int) (gu n what : Int) : Int := if what = 0 then (pbg f R kk a gu n (a 4).toNat).1 else (pbg f R kk a gu n (a 4).toNat).2
theorem pbg_rg {f : Int} {R : (Int → Int64) → Int64} {kk : Int} {a : Int → Int} {gu n : Int} : ∀ k : Nat, (∀ j : Nat, j < k → 0 ≤ pbgm f R kk a gu n (j : Int) ∧ pbgm f R kk a gu n (j : Int) ≤ 810) → -1 ≤ (pbg f R kk a gu n k).2 ∧ (pbg f R kk a gu n k).2 ≤ 810 := by
  intro k
  induction k with
  | zero => intro _; exact ⟨by show (-1 : Int) ≤ -1; decide, by show (-1 : Int) ≤ 810; decide⟩
  | succ k ih =>
    intro h
    have h1 := ih (fun j hj => h j (by omega))
    have h2 := h k (by omega)
    unfold pbg
    split
    · exact ⟨by simp only; omega, by simp only; omega⟩
    · exact h1
set_option maxRecDepth 8000 in
theorem sg_239_0 {d : Nat} {I : XI} {L : XL} {D : GD} {post : XQ}  {u1 : Int} {u2 : Int} {u3 : Int} (h : xR d 239 es_239 2 [xr (some 101), xi u1, xi u2, xi u3, xt 0, xt 0, xt 0, xt 0, xt 0] [xi u1, xr (some 101)] I L (gG D) 0 0 post) : xR d 239 es_239 0 [xr (some 101), xi u1, xi u2, xi u3, xt 0, xt 0, xt 0, xt 0, xt 0] [] I L (gG D) 0 0 post := xW_R (fun k => Nat.beq k 2 || Nat.beq k 8 || Nat.beq k 14 || Nat.beq k 28 || Nat.beq k 31 || Nat.beq k 44 || Nat.beq k 47 || Nat.beq k 50) 2 _ _ _ _ _ _ _ _ _ _ _ _ h
set_option maxRecDepth 8000 in
theorem sg_239_3 {d : Nat} {I : XI} {L : XL} {D : GD} {post : XQ}  {u1 : Int} {u2 : Int} {u3 : Int} {w0 : Int} (h : ((-2147483648 ≤ w0 ∧ w0 ≤ 2147483647) ∧ ((w0 = 0 → post (some (xi (-1 : Int))) I L (gG D)) ∧ (¬ w0 = 0 → ((-2147483648 ≤ u2 ∧ u2 ≤ 2147483647) ∧ xR d 239 es_239 8 [xr (some 101), xi u1, xi u2, xi u3, xt 0, xt 0, xt 0, xt 0, xt 0] [xl (Int64.ofInt 60), xl (1 : Int64), xl (Int64.ofInt u2)] I L (gG D) 0 0 post))))) : xR d 239 es_239 3 [xr (some 101), xi u1, xi u2, xi u3, xt 0, xt 0, xt 0, xt 0, xt 0] [xi w0] I L (gG D) 0 0 post := xW_R (fun k => Nat.beq k 2 || Nat.beq k 8 || Nat.beq k 14 || Nat.beq k 28 || Nat.beq k 31 || Nat.beq k 44 || Nat.beq k 47 || Nat.beq k 50) 5 _ _ _ _ _ _ _ _ _ _ _ _ h
set_option maxRecDepth 8000 in
theorem sg_239_9 {d : Nat} {I : XI} {L : XL} {D : GD} {post : XQ}  {u1 : Int} {u2 : Int} {u3 : Int} {w0 : Int} (h : ((-2147483648 ≤ w0 ∧ w0 ≤ 2147483647) ∧ ((w0 = 0 → post (some (xi (-1 : Int))) I L (gG D)) ∧ (¬ w0 = 0 → ((-2147483648 ≤ u3 ∧ u3 ≤ 2147483647) ∧ xR d 239 es_239 14 [xr (some 101), xi u1, xi u2, xi u3, xt 0, xt 0, xt 0, xt 0, xt 0] [xl (1 : Int64), xl (0 : Int64), xl (Int64.ofInt u3)] I L (gG D) 0 0 post))))) : xR d 239 es_239 9 [xr (some 101), xi u1, xi u2, xi u3, xt 0, xt 0, xt 0, xt 0, xt 0] [xi w0] I L (gG D) 0 0 post := xW_R (fun k => Nat.beq k 2 || Nat.beq k 8 || Nat.beq k 14 || Nat.beq k 28 || Nat.beq k 31 || Nat.beq k 44 || Nat.beq k 47 || Nat.beq k 50) 5 _ _ _ _ _ _ _ _ _ _ _ _ h
set_option maxRecDepth 8000 in
theorem sg_239_15 {d : Nat} {I : XI} {L : XL} {D : GD} {post : XQ}  {u1 : Int} {u2 : Int} {u3 : Int} {w0 : Int} (h : ((-2147483648 ≤ w0 ∧ w0 ≤ 2147483647) ∧ ((¬ w0 = 0 → ((0 ≤ (1 : Int) ∧ (1 : Int) < (102 : Int)) ∧ xR d 239 es_239 28 [xr (some 101), xi u1, xi u2, xi u3, xi (I 111 (1 : Int)), xi (-1 : Int), xi (-1 : Int), xt 0, xt 0] [xr (some 101)] I L (gG D) 0 0 post)) ∧ (w0 = 0 → post (some (xi (-1 : Int))) I L (gG D))))) : xR d 239 es_239 15 [xr (some 101), xi u1, xi u2, xi u3, xt 0, xt 0, xt 0, xt 0, xt 0] [xi w0] I L (gG D) 0 0 post := xW_R (fun k => Nat.beq k 2 || Nat.beq k 8 || Nat.beq k 14 || Nat.beq k 28 || Nat.beq k 31 || Nat.beq k 44 || Nat.beq k 47 || Nat.beq k 50) 11 _ _ _ _ _ _ _ _ _ _ _ _ h
set_option maxRecDepth 8000 in
theorem sg_239_29 {d : Nat} {I : XI} {L : XL} {D : GD} {post : XQ}  {u1 : Int} {u2 : Int} {u3 : Int} {u4 : Int} {u5 : Int} {u6 : Int} (h : xR d 239 es_239 31 [xr (some 101), xi u1, xi u2, xi u3, xi u4, xi u5, xi u6, xi (0 : Int), xt 0] [] I L (gG D) 0 0 post) : xR d 239 es_239 29 [xr (some 101), xi u1, xi u2, xi u3, xi u4, xi u5, xi u6, xt 0, xt 0] [] I L (gG D) 0 0 post := xW_R (fun k => Nat.beq k 2 || Nat.beq k 8 || Nat.beq k 14 || Nat.beq k 28 || Nat.beq k 31 || Nat.beq k 44 || Nat.beq k 47 || Nat.beq k 50) 2 _ _ _ _ _ _ _ _ _ _ _ _ h
set_option maxRecDepth 8000 in
theorem w_239 {d : Nat} {I : XI} {L : XL} {D : GD} {post : XQ}   {gu : Int} {n : Int} {what : Int} (hd : 1 ≤ d) (h : ((SO (I 111) ∧ (-2147483648 ≤ gu ∧ gu ≤ 2147483647)) ∧ (((¬ (0 ≤ gu ∧ gu < I 111 (4 : Int)) → post (some (xi (-1 : Int))) I L (gG D)) ∧ (0 ≤ gu ∧ gu < I 111 (4 : Int) → (((-2147483648 ≤ n ∧ n ≤ 2147483647)) ∧ (((-2147483648 ≤ n ∧ n ≤ 2147483647) ∧ (-2147483648 ≤ (1 : Int) ∧ (1 : Int) ≤ 2147483647) ∧ (-2147483648 ≤ (60 : Int) ∧ (60 : Int) ≤ 2147483647)) ∧ (((¬ ((1 : Int) ≤ n ∧ n ≤ (60 : Int)) → post (some (xi (-1 : Int))) I L (gG D)) ∧ ((1 : Int) ≤ n ∧ n ≤ (60 : Int) → (((-2147483648 ≤ what ∧ what ≤ 2147483647)) ∧ (((-2147483648 ≤ what ∧ what ≤ 2147483647) ∧ (-2147483648 ≤ (0 : Int) ∧ (0 : Int) ≤ 2147483647) ∧ (-2147483648 ≤ (1 : Int) ∧ (1 : Int) ≤ 2147483647)) ∧ ((((0 : Int) ≤ what ∧ what ≤ (1 : Int) → xR d 239 es_239 31 [xr (some 101), xi gu, xi n, xi what, xi (I 111 (1 : Int)), xi (-1 : Int), xi (-1 : Int), xi (0 : Int), xt 0] [] (xsc I 113 (xcp (I 111) (I 113) 10 0 16)) L (gG D) 0 0 post) ∧ (¬ ((0 : Int) ≤ what ∧ what ≤ (1 : Int)) → post (some (xi (-1 : Int))) I L (gG D)))))))))))))))) : xR d 239 es_239 0 [xr (some 101), xi gu, xi n, xi what, xt 0, xt 0, xt 0, xt 0, xt 0] [] I L (gG D) 0 0 post := sg_239_0  ((xR_cF rfl rfl rfl (c_194 h.1) (by omega) (sg_239_3  ⟨(xb_rg _), ⟨fun q424 => (h.2.1 (xb_0 q424)), fun q425 => ⟨(h.2.2 (xb_n0 q425)).1, (xR_cF rfl rfl rfl (c_147 (h.2.2 (xb_n0 q425)).2.1) (by omega) (sg_239_9  ⟨(xb_rg _), ⟨fun q422 => ((h.2.2 (xb_n0 q425)).2.2.1 (xb_0 q422)), fun q423 => ⟨((h.2.2 (xb_n0 q425)).2.2.2 (xb_n0 q423)).1, (xR_cF rfl rfl rfl (c_147 ((h.2.2 (xb_n0 q425)).2.2.2 (xb_n0 q423)).2.1) (by omega) (sg_239_15  ⟨(xb_rg _), ⟨fun q420 => ⟨(by decide), (xR_cF rfl rfl rfl c_220 (by omega) (sg_239_29  (((h.2.2 (xb_n0 q425)).2.2.2 (xb_n0 q423)).2.2.1 (xb_n0 q420))))⟩, fun q421 => (((h.2.2 (xb_n0 q425)).2.2.2 (xb_n0 q423)).2.2.2 (xb_0 q421))⟩⟩))⟩⟩⟩))⟩⟩⟩)))
set_option maxRecDepth 8000 in
theorem sg_239_31 {d : Nat} {I : XI} {L : XL} {D : GD} {post : XQ}  {u1 : Int} {u2 : Int} {u3 : Int} {u4 : Int} {u5 : Int} {u6 : Int} {u7 : Int} {u8 : XV} (h : ((0 ≤ (4 : Int) ∧ (4 : Int) < (102 : Int)) ∧ (((-2147483648 ≤ u7 ∧ u7 ≤ 2147483647) ∧ (-2147483648 ≤ (I 111 (4 : Int)) ∧ (I 111 (4 : Int)) ≤ 2147483647)) ∧ (((I 111 (4 : Int)) ≤ u7 → ((0 ≤ (1 : Int) ∧ (1 : Int) < (102 : Int)) ∧ ((-2147483648 ≤ u3 ∧ u3 ≤ 2147483647) ∧ ((¬ u3 = 0 → post (some (xi u6)) (xwr I 111 (1 : Int) u4) L (gG D)) ∧ (u3 = 0 → post (some (xi u5)) (xwr I 111 (1 : Int) u4) L (gG D)))))) ∧ (u7 < (I 111 (4 : Int)) → ((0 ≤ (1 : Int) ∧ (1 : Int) < (102 : Int)) ∧ xR d 239 es_239 44 [xr (some 101), xi u1, xi u2, xi u3, xi u4, xi u5, xi u6, xi u7, u8] [xi u2, xr (some 101)] (xwr I 111 (1 : Int) u7) L (gG D) 0 0 post)))))) : xR d 239 es_239 31 [xr (some 101), xi u1, xi u2, xi u3, xi u4, xi u5, xi u6, xi u7, u8] [] I L (gG D) 0 0 post := xW_R (fun k => Nat.beq k 2 || Nat.beq k 8 || Nat.beq k 14 || Nat.beq k 28 || Nat.beq k 31 || Nat.beq k 44 || Nat.beq k 47 || Nat.beq k 50) 16 _ _ _ _ _ _ _ _ _ _ _ _ h
set_option maxRecDepth 8000 in
theorem sg_239_45 {d : Nat} {I : XI} {L : XL} {D : GD} {post : XQ}  {u1 : Int} {u2 : Int} {u3 : Int} {u4 : Int} {u5 : Int} {u6 : Int} {u7 : Int} {u8 : XV} (h : xR d 239 es_239 47 [xr (some 101), xi u1, xi u2, xi u3, xi u4, xi u5, xi u6, xi u7, u8] [xi u1, xr (some 101)] I L (gG D) 0 0 post) : xR d 239 es_239 45 [xr (some 101), xi u1, xi u2, xi u3, xi u4, xi u5, xi u6, xi u7, u8] [] I L (gG D) 0 0 post := xW_R (fun k => Nat.beq k 2 || Nat.beq k 8 || Nat.beq k 14 || Nat.beq k 28 || Nat.beq k 31 || Nat.beq k 44 || Nat.beq k 47 || Nat.beq k 50) 2 _ _ _ _ _ _ _ _ _ _ _ _ h
set_option maxRecDepth 8000 in
theorem sg_239_48 {d : Nat} {I : XI} {L : XL} {D : GD} {post : XQ}  {u1 : Int} {u2 : Int} {u3 : Int} {u4 : Int} {u5 : Int} {u6 : Int} {u7 : Int} {u8 : XV} {w0 : Int} (h : xR d 239 es_239 50 [xr (some 101), xi u1, xi u2, xi u3, xi u4, xi u5, xi u6, xi u7, xi w0] [xr (some 101)] I L (gG D) 0 0 post) : xR d 239 es_239 48 [xr (some 101), xi u1, xi u2, xi u3, xi u4, xi u5, xi u6, xi u7, u8] [xi w0] I L (gG D) 0 0 post := xW_R (fun k => Nat.beq k 2 || Nat.beq k 8 || Nat.beq k 14 || Nat.beq k 28 || Nat.beq k 31 || Nat.beq k 44 || Nat.beq k 47 || Nat.beq k 50) 2 _ _ _ _ _ _ _ _ _ _ _ _ h
set_option maxRecDepth 8000 in
theorem sg_239_51 {d : Nat} {I : XI} {L : XL} {D : GD} {post : XQ}  {u1 : Int} {u2 : Int} {u3 : Int} {u4 : Int} {u5 : Int} {u6 : Int} {u7 : Int} {u8 : Int} (h : (((-2147483648 ≤ u8 ∧ u8 ≤ 2147483647) ∧ (-2147483648 ≤ u6 ∧ u6 ≤ 2147483647)) ∧ ((u6 < u8 → xR d 239 es_239 31 [xr (some 101), xi u1, xi u2, xi u3, xi u4, xi u7, xi u8, xi (u7 + (1 : Int)), xi u8] [] I L (gG D) 0 0 post) ∧ (u8 ≤ u6 → xR d 239 es_239 31 [xr (some 101), xi u1, xi u2, xi u3, xi u4, xi u5, xi u6, xi (u7 + (1 : Int)), xi u8] [] I L (gG D) 0 0 post)))) : xR d 239 es_239 51 [xr (some 101), xi u1, xi u2, xi u3, xi u4, xi u5, xi u6, xi u7, xi u8] [] I L (gG D) 0 0 post := xW_R (fun k => Nat.beq k 2 || Nat.beq k 8 || Nat.beq k 14 || Nat.beq k 28 || Nat.beq k 31 || Nat.beq k 44 || Nat.beq k 47 || Nat.beq k 50) 9 _ _ _ _ _ _ _ _ _ _ _ _ h
set_option maxRecDepth 8000 in
theorem b_239 {d : Nat} {I : XI} {L : XL} {D : GD} {post : XQ} {tp z : Int} {K W : Int → Int64} {kp : Int → Int}  {gu : Int} {n : Int} {what : Int} {wa : Int} {be : Int} {mo : Int} {g : Int} {x8 : XV} (hd : 8 ≤ d) (h : (((-2147483648 ≤ g ∧ g ≤ 2147483647) ∧ (-2147483648 ≤ (I 111 (4 : Int)) ∧ (I 111 (4 : Int)) ≤ 2147483647)) ∧ (((I 111 (4 : Int)) ≤ g → (((-2147483648 ≤ what ∧ what ≤ 2147483647)) ∧ ((¬ what = 0 → post (some (xi mo)) (xsc (xsc (xsc I 101 (xup (I 101) (18 : Int) tp)) 111 (xup (I 111) (1 : Int) wa)) 113 kp) (xsc (xsc L 109 K) 110 W) (gG D)) ∧ (what = 0 → post (some (xi be)) (xsc (xsc (xsc I 101 (xup (I 101) (18 : Int) tp)) 111 (xup (I 111) (1 : Int) wa)) 113 kp) (xsc (xsc L 109 K) 110 W) (gG D))))) ∧ (g < (I 111 (4 : Int)) → ((SO (xup (xup (I 111) (1 : Int) z) (1 : Int) g) ∧ (0 ≤ n ∧ I 111 (10 : Int) + n ≤ 2000) ∧ RO (I 103) (I 105) (I 106) (I 101 (21 : Int))) ∧ (∀ (e428 : Int) (e429 : Int → Int64) (e430 : Int → Int64), ((SO (ppassn (I 101 (21 : Int)) (pR (I 103) (I 105) (I 106) (I 101 (21 : Int))) (I 101 (23 : Int)) (n).toNat (xup (xup (I 111) (1 : Int) z) (1 : Int) g)) ∧ (0 ≤ gu ∧ gu < 5)) ∧ (((-2147483648 ≤ (phas (ppassn (I 101 (21 : Int)) (pR (I 103) (I 105) (I 106) (I 101 (21 : Int))) (I 101 (23 : Int)) (n).toNat (xup (xup (I 111) (1 : Int) z) (1 : Int) g)) gu) ∧ (phas (ppassn (I 101 (21 : Int)) (pR (I 103) (I 105) (I 106) (I 101 (21 : Int))) (I 101 (23 : Int)) (n).toNat (xup (xup (I 111) (1 : Int) z) (1 : Int) g)) gu) ≤ 2147483647) ∧ (-2147483648 ≤ mo ∧ mo ≤ 2147483647)) ∧ ((mo < (phas (ppassn (I 101 (21 : Int)) (pR (I 103) (I 105) (I 106) (I 101 (21 : Int))) (I 101 (23 : Int)) (n).toNat (xup (xup (I 111) (1 : Int) z) (1 : Int) g)) gu) → xR d 239 es_239 31 [xr (some 101), xi gu, xi n, xi what, xi wa, xi g, xi (phas (ppassn (I 101 (21 : Int)) (pR (I 103) (I 105) (I 106) (I 101 (21 : Int))) (I 101 (23 : Int)) (n).toNat (xup (xup (I 111) (1 : Int) z) (1 : Int) g)) gu), xi (g + (1 : Int)), xi (phas (ppassn (I 101 (21 : Int)) (pR (I 103) (I 105) (I 106) (I 101 (21 : Int))) (I 101 (23 : Int)) (n).toNat (xup (xup (I 111) (1 : Int) z) (1 : Int) g)) gu)] [] (xsc (xsc (xsc I 101 (xup (I 101) (18 : Int) e428)) 111 (xcp kp (ppassn (I 101 (21 : Int)) (pR (I 103) (I 105) (I 106) (I 101 (21 : Int))) (I 101 (23 : Int)) (n).toNat (xup (xup (I 111) (1 : Int) z) (1 : Int) g)) 0 10 16)) 113 kp) (xsc (xsc L 109 e429) 110 e430) (gG D) 0 0 post) ∧ ((phas (ppassn (I 101 (21 : Int)) (pR (I 103) (I 105) (I 106) (I 101 (21 : Int))) (I 101 (23 : Int)) (n).toNat (xup (xup (I 111) (1 : Int) z) (1 : Int) g)) gu) ≤ mo → xR d 239 es_239 31 [xr (some 101), xi gu, xi n, xi what, xi wa, xi be, xi mo, xi (g + (1 : Int)), xi (phas (ppassn (I 101 (21 : Int)) (pR (I 103) (I 105) (I 106) (I 101 (21 : Int))) (I 101 (23 : Int)) (n).toNat (xup (xup (I 111) (1 : Int) z) (1 : Int) g)) gu)] [] (xsc (xsc (xsc I 101 (xup (I 101) (18 : Int) e428)) 111 (xcp kp (ppassn (I 101 (21 : Int)) (pR (I 103) (I 105) (I 106) (I 101 (21 : Int))) (I 101 (23 : Int)) (n).toNat (xup (xup (I 111) (1 : Int) z) (1 : Int) g)) 0 10 16)) 113 kp) (xsc (xsc L 109 e429) 110 e430) (gG D) 0 0 post)))))))))) : xR d 239 es_239 31 [xr (some 101), xi gu, xi n, xi what, xi wa, xi be, xi mo, xi g, x8] [] (xsc (xsc (xsc I 101 (xup (I 101) (18 : Int) tp)) 111 (xup (I 111) (1 : Int) z)) 113 kp) (xsc (xsc L 109 K) 110 W) (gG D) 0 0 post := sg_239_31  (⟨(by decide), ⟨⟨h.1.1, h.1.2⟩, ⟨fun q433 => ⟨(by decide), ⟨(h.2.1 q433).1, ⟨fun q426 => (xpost ((h.2.1 q433).2.1 q426) (funext fun i => (xpt rfl (fun h113_ => (xpt (show (xup (xup (I 111) (1 : Int) z) (1 : Int) wa) = (xup (I 111) (1 : Int) wa) from by funext j; simp only [xup]; (repeat' split) <;> first | rfl | omega) (fun h111_ => (xpt rfl (fun h101_ => (by simp only [xsc_ne _ _ h101_, xwr_ne _ _ _ h101_, xsc_ne _ _ h111_, xwr_ne _ _ _ h111_, xsc_ne _ _ h113_, xwr_ne _ _ _ h113_])))))))) rfl), fun q427 => (xpost ((h.2.1 q433).2.2 q427) (funext fun i => (xpt rfl (fun h113_ => (xpt (show (xup (xup (I 111) (1 : Int) z) (1 : Int) wa) = (xup (I 111) (1 : Int) wa) from by funext j; simp only [xup]; (repeat' split) <;> first | rfl | omega) (fun h111_ => (xpt rfl (fun h101_ => (by simp only [xsc_ne _ _ h101_, xwr_ne _ _ _ h101_, xsc_ne _ _ h111_, xwr_ne _ _ _ h111_, xsc_ne _ _ h113_, xwr_ne _ _ _ h113_])))))))) rfl)⟩⟩⟩, fun q434 => ⟨(by decide), (xR_cQ rfl rfl rfl (c_222 (h.2.2 q434).1) (by omega) (fun _ _ _ _ hx435 => by obtain ⟨e428, e429, e430, rfl, rfl, rfl, rfl⟩ := hx435; exact (sg_239_45  (xR_cF rfl rfl rfl (c_199 ((h.2.2 q434).2 e428 e429 e430).1) (by omega) (sg_239_48  (xR_cF rfl rfl rfl c_221 (by omega) (sg_239_51  ⟨⟨((h.2.2 q434).2 e428 e429 e430).2.1.1, ((h.2.2 q434).2 e428 e429 e430).2.1.2⟩, ⟨fun q431 => (xR_memc (((h.2.2 q434).2 e428 e429 e430).2.2.1 q431) (funext fun i => (xpt rfl (fun h113_ => (xpt rfl (fun h111_ => (xpt (show (xup (xup (I 101) (18 : Int) tp) (18 : Int) e428) = (xup (I 101) (18 : Int) e428) from by funext j; simp only [xup]; (repeat' split) <;> first | rfl | omega) (fun h101_ => (by simp only [xsc_ne _ _ h101_, xwr_ne _ _ _ h101_, xsc_ne _ _ h111_, xwr_ne _ _ _ h111_, xsc_ne _ _ h113_, xwr_ne _ _ _ h113_])))))))) (funext fun i => (xpt rfl (fun h110_ => (xpt rfl (fun h109_ => (by simp only [xsc_ne _ _ h109_, xwr_ne _ _ _ h109_, xsc_ne _ _ h110_, xwr_ne _ _ _ h110_]))))))), fun q432 => (xR_memc (((h.2.2 q434).2 e428 e429 e430).2.2.2 q432) (funext fun i => (xpt rfl (fun h113_ => (xpt rfl (fun h111_ => (xpt (show (xup (xup (I 101) (18 : Int) tp) (18 : Int) e428) = (xup (I 101) (18 : Int) e428) from by funext j; simp only [xup]; (repeat' split) <;> first | rfl | omega) (fun h101_ => (by simp only [xsc_ne _ _ h101_, xwr_ne _ _ _ h101_, xsc_ne _ _ h111_, xwr_ne _ _ _ h111_, xsc_ne _ _ h113_, xwr_ne _ _ _ h113_])))))))) (funext fun i => (xpt rfl (fun h110_ => (xpt rfl (fun h109_ => (by simp only [xsc_ne _ _ h109_, xwr_ne _ _ _ h109_, xsc_ne _ _ h110_, xwr_ne _ _ _ h110_])))))))⟩⟩)))))))⟩⟩⟩⟩)
theorem c_239 {I : XI} {L : XL} {D : GD}   {gu : Int} {n : Int} {what : Int} (h : (SO (I 111) ∧ I 111 (10 : Int) ≤ 1000 ∧ RO (I 103) (I 105) (I 106) (I 101 (21 : Int)) ∧ (-2147483648 ≤ gu ∧ gu ≤ 2147483647) ∧ (-2147483648 ≤ n ∧ n ≤ 2147483647) ∧ (-2147483648 ≤ what ∧ what ≤ 2147483647))) : xM 8 239 [xr (some 101), xi gu, xi n, xi what] I L (gG D) (0, 0) (fun r2 I2 L2 G2 => ∃ (tp : Int) (K : Int → Int64) (W : Int → Int64) (kp : Int → Int), r2 = (some (xi (if (0 ≤ gu ∧ gu < I 111 (4 : Int)) ∧ (1 ≤ n ∧ n ≤ 60) ∧ (0 ≤ what ∧ what ≤ 1) then qbegin (I 101 (21 : Int)) (pR (I 103) (I 105) (I 106) (I 101 (21 : Int))) (I 101 (23 : Int)) (I 111) gu n what else -1))) ∧ I2 = (xsc (xsc (xsc I 101 (xup (I 101) (18 : Int) (if (0 ≤ gu ∧ gu < I 111 (4 : Int)) ∧ (1 ≤ n ∧ n ≤ 60) ∧ (0 ≤ what ∧ what ≤ 1) then tp else I 101 (18 : Int)))) 111 (if (0 ≤ gu ∧ gu < I 111 (4 : Int)) ∧ (1 ≤ n ∧ n ≤ 60) ∧ (0 ≤ what ∧ what ≤ 1) then (I 111) else (I 111))) 113 (if (0 ≤ gu ∧ gu < I 111 (4 : Int)) ∧ (1 ≤ n ∧ n ≤ 60) ∧ (0 ≤ what ∧ what ≤ 1) then kp else (I 113))) ∧ L2 = (xsc (xsc L 109 (if (0 ≤ gu ∧ gu < I 111 (4 : Int)) ∧ (1 ≤ n ∧ n ≤ 60) ∧ (0 ≤ what ∧ what ≤ 1) then K else (L 109))) 110 (if (0 ≤ gu ∧ gu < I 111 (4 : Int)) ∧ (1 ≤ n ∧ n ≤ 60) ∧ (0 ≤ what ∧ what ≤ 1) then W else (L 110))) ∧ G2 = (gG D)) := by
  intro d hd
  obtain ⟨hS, ht, hR, h1, h2, h3⟩ := h
  have hn := hS.n
  have hg := hS.g
  have hf := hS.f
  have h10 := hS.turn
  refine w_239 (by omega) ?_
  by_cases hc : (0 ≤ gu ∧ gu < I 111 (4 : Int)) ∧ (1 ≤ n ∧ n ≤ 60) ∧ (0 ≤ what ∧ what ≤ 1)
  · simp only [if_pos hc]
    have hS1 := fun g (g0 : 0 ≤ g) (g1 : g ≤ 4) => SO_first hS (g := g) g0 g1
    have hrg : ∀ j : Nat, j < 5 → 0 ≤ pbgm (I 101 21) (pR (I 103) (I 105) (I 106) (I 101 21)) (I 101 23) (I 111) gu n (j : Int) ∧ pbgm (I 101 21) (pR (I 103) (I 105) (I 106) (I 101 21)) (I 101 23) (I 111) gu n (j : Int) ≤ 810 := fun j hj => phas_rg (SO_passn (hS1 (j : Int) (by omega) (by omega)) n.toNat (by show I 111 10 + _ ≤ _; omega)) (by omega) (by omega)
    have key : ∀ k : Nat, k ≤ (I 111 4).toNat → ∀ (tp : Int) (K : Int → Int64) (W : Int → Int64) (z : Int) (x8 : XV), xR d 239 es_239 31 [xr (some 101), xi gu, xi n, xi what, xi (I 111 1), xi (pbg (I 101 21) (pR (I 103) (I 105) (I 106) (I 101 21)) (I 101 23) (I 111) gu n k).1, xi (pbg (I 101 21) (pR (I 103) (I 105) (I 106) (I 101 21)) (I 101 23) (I 111) gu n k).2, xi (k : Int), x8] [] (xsc (xsc (xsc I 101 (xup (I 101) (18 : Int) tp)) 111 (xup (I 111) (1 : Int) z)) 113 (xcp (I 111) (I 113) 10 0 16)) (xsc (xsc L 109 K) 110 W) (gG D) 0 0 (fun r2 I2 L2 G2 => ∃ (tp : Int) (K : Int → Int64) (W : Int → Int64) (kp : Int → Int), r2 = some (xi (qbegin (I 101 21) (pR (I 103) (I 105) (I 106) (I 101 21)) (I 101 23) (I 111) gu n what)) ∧ I2 = (xsc (xsc (xsc I 101 (xup (I 101) (18 : Int) tp)) 111 (I 111)) 113 kp) ∧ L2 = (xsc (xsc L 109 K) 110 W) ∧ G2 = gG D) := by
      refine xfor ?_ ?_
      · intro tp K W z x8
        refine b_239 (by omega) ?_
        repeat' first | (with_reducible intro _) | (with_reducible refine And.intro ?_ ?_)
        all_goals first | omega | assumption | skip
        all_goals (rw [xup_self]; exact ⟨_, _, _, _, (by unfold qbegin; (repeat' split) <;> first | rfl | omega), rfl, rfl, rfl⟩)
      · intro k hk ih tp K W z x8
        have hS2 := hS1 (k : Int) (by omega) (by omega)
        have hP : SO (xup (I 111) 1 (k : Int)) ∧ (0 ≤ n ∧ xup (I 111) 1 (k : Int) 10 + n ≤ 2000) ∧ RO (I 103) (I 105) (I 106) (I 101 21) := ⟨hS2, ⟨by omega, by show I 111 10 + n ≤ 2000; omega⟩, hR⟩
        have hS3 := SO_passn (f := (I 101 21)) (R := (pR (I 103) (I 105) (I 106) (I 101 21))) (kk := (I 101 23)) hS2 n.toNat (by show I 111 10 + _ ≤ _; omega)
        have hG : SO (ppassn (I 101 21) (pR (I 103) (I 105) (I 106) (I 101 21)) (I 101 23) n.toNat (xup (I 111) 1 (k : Int))) ∧ (0 ≤ gu ∧ gu < 5) := ⟨hS3, by omega⟩
        have lb := lays_back2 (a := I 111) (a2 := xup (I 111) 1 (k : Int)) (b := ppassn (I 101 21) (pR (I 103) (I 105) (I 106) (I 101 21)) (I 101 23) n.toNat (xup (I 111) 1 (k : Int))) (c := I 113) (fun j hj => ppassn_out (f := (I 101 21)) (R := (pR (I 103) (I 105) (I 106) (I 101 21))) (kk := (I 101 23)) hS2 (j := j) (by omega) n.toNat (by show I 111 10 + _ ≤ _; omega)) (fun j h0 h1 => (xup_ne _ _ (by omega)).symm)
        have hq := pbg_rg (f := (I 101 21)) (R := (pR (I 103) (I 105) (I 106) (I 101 21))) (kk := (I 101 23)) (a := I 111) (gu := gu) (n := n) k (fun j hj => hrg j (by omega))
        have hq2 := hrg k (by omega)
        have e : pbg (I 101 21) (pR (I 103) (I 105) (I 106) (I 101 21)) (I 101 23) (I 111) gu n (k + 1) = if (pbg (I 101 21) (pR (I 103) (I 105) (I 106) (I 101 21)) (I 101 23) (I 111) gu n k).2 < pbgm (I 101 21) (pR (I 103) (I 105) (I 106) (I 101 21)) (I 101 23) (I 111) gu n (k : Int) then ((k : Int), pbgm (I 101 21) (pR (I 103) (I 105) (I 106) (I 101 21)) (I 101 23) (I 111) gu n (k : Int)) else pbg (I 101 21) (pR (I 103) (I 105) (I 106) (I 101 21)) (I 101 23) (I 111) gu n k := rfl
        unfold pbgm at e hq2
        refine b_239 (by omega) ?_
        simp only [xup_up]
        repeat' first | (with_reducible intro _) | (with_reducible refine And.intro ?_ ?_)
        all_goals first | omega | assumption | skip
        all_goals rw [lb]
        all_goals first
          | (rw [if_pos (by assumption)] at e; rw [e] at ih; exact ih _ _ _ _ _)
          | (rw [if_neg (by omega)] at e; rw [e] at ih; exact ih _ _ _ _ _)
    repeat' first | (with_reducible intro _) | (with_reducible refine And.intro ?_ ?_)
    all_goals first | omega | assumption | exact ⟨hS, by omega⟩ | exact ⟨_, _, _, _, (by first | rfl | trivial), (by first | rfl | trivial), (by first | rfl | trivial), (by first | rfl | trivial)⟩ | skip
    exact xR_memc (key 0 (Nat.zero_le _) (I 101 18) (L 109) (L 110) (I 111 1) _) (by (funext i; by_cases h101 : i = 101; (subst h101; first | rfl | exact (xcp_zero _ _ _ _).symm | exact (xup_self _ _).symm | exact (xup_self2 _ _ _).symm | exact (xup_self3 _ _ _ _).symm | exact xup_self _ _); by_cases h111 : i = 111; (subst h111; first | rfl | exact (xcp_zero _ _ _ _).symm | exact (xup_self _ _).symm | exact (xup_self2 _ _ _).symm | exact (xup_self3 _ _ _ _).symm | exact xup_self _ _); by_cases h113 : i = 113; (subst h113; first | rfl | exact (xcp_zero _ _ _ _).symm | exact (xup_self _ _).symm | exact (xup_self2 _ _ _).symm | exact (xup_self3 _ _ _ _).symm | exact xup_self _ _); first | rfl | simp only [xsc_ne _ _ h101, xsc_ne _ _ h111, xsc_ne _ _ h113])) (by (funext i; by_cases h109 : i = 109; (subst h109; first | rfl | exact (xcp_zero _ _ _ _).symm | exact (xup_self _ _).symm | exact (xup_self2 _ _ _).symm | exact (xup_self3 _ _ _ _).symm | exact xup_self _ _); by_cases h110 : i = 110; (subst h110; first | rfl | exact (xcp_zero _ _ _ _).symm | exact (xup_self _ _).symm | exact (xup_self2 _ _ _).symm | exact (xup_self3 _ _ _ _).symm | exact xup_self _ _); first | rfl | simp only [xsc_ne _ _ h109, xsc_ne _ _ h110]))
  · simp only [if_neg hc]
    repeat' first | (with_reducible intro _) | (with_reducible refine And.intro ?_ ?_)
    all_goals first | omega | assumption | exact ⟨hS, by omega⟩ | (exact ⟨I 101 18, L 109, L 110, I 113, (by first | rfl | trivial), (by (funext i; by_cases h101 : i = 101; (subst h101; first | rfl | exact (xcp_zero _ _ _ _).symm | exact (xup_self _ _).symm | exact (xup_self2 _ _ _).symm | exact (xup_self3 _ _ _ _).symm | exact xup_self _ _); by_cases h111 : i = 111; (subst h111; first | rfl | exact (xcp_zero _ _ _ _).symm | exact (xup_self _ _).symm | exact (xup_self2 _ _ _).symm | exact (xup_self3 _ _ _ _).symm | exact xup_self _ _); by_cases h113 : i = 113; (subst h113; first | rfl | exact (xcp_zero _ _ _ _).symm | exact (xup_self _ _).symm | exact (xup_self2 _ _ _).symm | exact (xup_self3 _ _ _ _).symm | exact xup_self _ _); first | rfl | simp only [xsc_ne _ _ h101, xsc_ne _ _ h111, xsc_ne _ _ h113])), (by (funext i; by_cases h109 : i = 109; (subst h109; first | rfl | exact (xcp_zero _ _ _ _).symm | exact (xup_self _ _).symm | exact (xup_self2 _ _ _).symm | exact (xup_self3 _ _ _ _).symm | exact xup_self _ _); by_cases h110 : i = 110; (subst h110; first | rfl | exact (xcp_zero _ _ _ _).symm | exact (xup_self _ _).symm | exact (xup_self2 _ _ _).symm | exact (xup_self3 _ _ _ _).symm | exact xup_self _ _); first | rfl | simp only [xsc_ne _ _ h109, xsc_ne _ _ h110])), (by first | rfl | trivial)⟩) | skip
