theorem ofI_le {x y : Int} (hx : xrg x) (hy : xrg y) : Int64.ofInt x ≤ Int64.ofInt y ↔ x ≤ y := by
  rw [Int64.le_iff_toInt_le, Int64.toInt_ofInt_of_le (by omega) (by omega), Int64.toInt_ofInt_of_le (by omega) (by omega)]
theorem ofI_lt {x y : Int} (hx : xrg x) (hy : xrg y) : Int64.ofInt x < Int64.ofInt y ↔ x < y := by
  rw [Int64.lt_iff_toInt_lt, Int64.toInt_ofInt_of_le (by omega) (by omega), Int64.toInt_ofInt_of_le (by omega) (by omega)]
set_option maxRecDepth 8000 in
theorem sg_147_0 {d : Nat} {I : XI} {L : XL} {D : GD} {post : XQ}  {u0 : Int64} {u2 : Int64} {u4 : Int64} (h : ((-2147483648 ≤ (xlcm u0 u2) ∧ (xlcm u0 u2) ≤ 2147483647) ∧ (((xlcm u0 u2) < 0 → (((0 : Int) = 0 ∨ (0 : Int) = 1) ∧ post (some (xi (0 : Int))) I L (gG D))) ∧ (0 ≤ (xlcm u0 u2) → ((-2147483648 ≤ (xlcm u0 u4) ∧ (xlcm u0 u4) ≤ 2147483647) ∧ ((0 < (xlcm u0 u4) → (((0 : Int) = 0 ∨ (0 : Int) = 1) ∧ post (some (xi (0 : Int))) I L (gG D))) ∧ ((xlcm u0 u4) ≤ 0 → (((1 : Int) = 0 ∨ (1 : Int) = 1) ∧ post (some (xi (1 : Int))) I L (gG D))))))))) : xR d 147 es_147 0 [xl u0, xt 0, xl u2, xt 0, xl u4, xt 0] [] I L (gG D) 0 0 post := xW_R (fun k => false) 11 _ _ _ _ _ _ _ _ _ _ _ _ h
set_option maxRecDepth 8000 in
theorem w_147 {d : Nat} {I : XI} {L : XL} {D : GD} {post : XQ}   {x : Int64} {y : Int64} {z : Int64} (hd : 0 ≤ d) (h : ((((xlcm x y) < 0 → post (some (xi (0 : Int))) I L (gG D)) ∧ (0 ≤ (xlcm x y) → (((0 < (xlcm x z) → post (some (xi (0 : Int))) I L (gG D)) ∧ ((xlcm x z) ≤ 0 → post (some (xi (1 : Int))) I L (gG D)))))))) : xR d 147 es_147 0 [xl x, xt 0, xl y, xt 0, xl z, xt 0] [] I L (gG D) 0 0 post := sg_147_0  (⟨(xlcm_rg _ _), ⟨fun q160 => ⟨(by decide), (h.1 q160)⟩, fun q161 => ⟨(xlcm_rg _ _), ⟨fun q158 => ⟨(by decide), ((h.2 q161).1 q158)⟩, fun q159 => ⟨(by decide), ((h.2 q161).2 q159)⟩⟩⟩⟩⟩)
theorem c_147 {I : XI} {L : XL} {D : GD}   {x : Int} {lo : Int} {hi : Int} (h : ((-2147483648 ≤ x ∧ x ≤ 2147483647) ∧ (-2147483648 ≤ lo ∧ lo ≤ 2147483647) ∧ (-2147483648 ≤ hi ∧ hi ≤ 2147483647))) : xM 0 147 [xl (Int64.ofInt x), xl (Int64.ofInt lo), xl (Int64.ofInt hi)] I L (gG D) (0, 0) (xD (some (xi (xb (lo ≤ x ∧ x ≤ hi)))) I L (gG D)) := by
  intro d hd
  have h1 := h.1
  have h2 := h.2.1
  have h3 := h.2.2
  refine w_147 (by omega) ?_
  repeat' first | (with_reducible intro _) | (with_reducible refine And.intro ?_ ?_)
  all_goals (try simp only [xl_lt, xl_gt, xl_le, xl_ge, ofI_le h1 h3, ofI_le h2 h1, ofI_lt h1 h2, ofI_lt h3 h1, ofI_lt h1 h3, ofI_lt h2 h1, ofI_le h1 h2, ofI_le h3 h1] at *)
  all_goals first | omega | exact xlcm_rg _ _ | exact (xlcm_rg _ _).1 | exact (xlcm_rg _ _).2 | (refine xD_eq ?_ rfl rfl; first | rfl | rw [xb_t (by omega)] | rw [xb_f (by omega)] | (rw [xb_t (by assumption)]) | (rw [xb_f (by assumption)]) | (rw [xb_t (by simp_all; done)]) | (rw [xb_f (by simp_all; done)]))
set_option maxRecDepth 8000 in
theorem sg_187_0 {d : Nat} {I : XI} {L : XL} {D : GD} {post : XQ}  {u1 : Int} (h : ((-2147483648 ≤ u1 ∧ u1 ≤ 2147483647) ∧ ((u1 < 0 → (((0 : Int) = 0 ∨ (0 : Int) = 1) ∧ post (some (xi (0 : Int))) I L (gG D))) ∧ (0 ≤ u1 → (((-2147483648 ≤ u1 ∧ u1 ≤ 2147483647) ∧ (-2147483648 ≤ (I 101 (2 : Int)) ∧ (I 101 (2 : Int)) ≤ 2147483647)) ∧ (((I 101 (2 : Int)) ≤ u1 → (((0 : Int) = 0 ∨ (0 : Int) = 1) ∧ post (some (xi (0 : Int))) I L (gG D))) ∧ (u1 < (I 101 (2 : Int)) → (((1 : Int) = 0 ∨ (1 : Int) = 1) ∧ post (some (xi (1 : Int))) I L (gG D))))))))) : xR d 187 es_187 0 [xr (some 101), xi u1] [] I L (gG D) 0 0 post := xW_R (fun k => false) 9 _ _ _ _ _ _ _ _ _ _ _ _ h
set_option maxRecDepth 8000 in
theorem w_187 {d : Nat} {I : XI} {L : XL} {D : GD} {post : XQ}   {k : Int} (hd : 0 ≤ d) (h : (((-2147483648 ≤ k ∧ k ≤ 2147483647)) ∧ ((k < 0 → post (some (xi (0 : Int))) I L (gG D)) ∧ (0 ≤ k → (((-2147483648 ≤ (I 101 (2 : Int)) ∧ (I 101 (2 : Int)) ≤ 2147483647)) ∧ (((I 101 (2 : Int)) ≤ k → post (some (xi (0 : Int))) I L (gG D)) ∧ (k < (I 101 (2 : Int)) → post (some (xi (1 : Int))) I L (gG D)))))))) : xR d 187 es_187 0 [xr (some 101), xi k] [] I L (gG D) 0 0 post := sg_187_0  (⟨h.1, ⟨fun q164 => ⟨(by decide), (h.2.1 q164)⟩, fun q165 => ⟨⟨h.1, (h.2.2 q165).1⟩, ⟨fun q162 => ⟨(by decide), ((h.2.2 q165).2.1 q162)⟩, fun q163 => ⟨(by decide), ((h.2.2 q165).2.2 q163)⟩⟩⟩⟩⟩)
theorem c_187 {I : XI} {L : XL} {D : GD}   {k : Int} (h : ((-2147483648 ≤ k ∧ k ≤ 2147483647) ∧ (-2147483648 ≤ (I 101 (2 : Int)) ∧ (I 101 (2 : Int)) ≤ 2147483647))) : xM 0 187 [xr (some 101), xi k] I L (gG D) (0, 0) (xD (some (xi (xb (0 ≤ k ∧ k < I 101 (2 : Int))))) I L (gG D)) := by
  intro d hd
  have h1 := h.1
  have h2 := h.2
  refine w_187 (by omega) ?_
  repeat' first | (with_reducible intro _) | (with_reducible refine And.intro ?_ ?_)
  all_goals first | omega | exact xD_in | assumption | (refine xD_eq ?_ rfl rfl; first | rfl | rw [xb_t (by omega)] | rw [xb_f (by omega)] | (rw [xb_t (by assumption)]) | (rw [xb_f (by assumption)]) | (rw [xb_t (by simp_all; done)]) | (rw [xb_f (by simp_all; done)]))
def qforce (f r rs : Int) : Int := if f = -1 ∨ (0 ≤ f ∧ f < rs) then r else -2
def qforced (f r rs : Int) : Int := if f = -1 ∨ (0 ≤ f ∧ f < rs) then f else r
def qslice (a : Int → Int) (s what : Int) : Int := if ¬ (0 ≤ s ∧ s < a 3) ∨ ¬ (0 ≤ what ∧ what ≤ 2) then -2 else if what = 0 then a (26 + s) else if what = 1 then a (36 + s) else a (11 + s)
def qguest (a : Int → Int) (g what : Int) : Int := if ¬ (0 ≤ g ∧ g < a 4) ∨ ¬ (0 ≤ what ∧ what ≤ 6) then -1 else if 2 < what then a (51 + 4 * g + what - 3) else if what = 0 then a (21 + g) else if what = 1 then phas a g else pslices a g
set_option maxRecDepth 8000 in
theorem sg_203_0 {d : Nat} {I : XI} {L : XL} {D : GD} {post : XQ}  {u1 : Int} (h : (((-2147483648 ≤ u1 ∧ u1 ≤ 2147483647) ∧ (-2147483648 ≤ (-1 : Int) ∧ (-1 : Int) ≤ 2147483647)) ∧ ((u1 = (-1 : Int) → post (some (xi (I 101 (21 : Int)))) (xwr I 101 (21 : Int) u1) L (gG D)) ∧ (¬ u1 = (-1 : Int) → xR d 203 es_203 5 [xr (some 101), xi u1, xt 0] [xi u1, xr (some 101)] I L (gG D) 0 0 post)))) : xR d 203 es_203 0 [xr (some 101), xi u1, xt 0] [] I L (gG D) 0 0 post := xW_R (fun k => Nat.beq k 5) 11 _ _ _ _ _ _ _ _ _ _ _ _ h
set_option maxRecDepth 8000 in
theorem sg_203_6 {d : Nat} {I : XI} {L : XL} {D : GD} {post : XQ}  {u1 : Int} {w0 : Int} (h : ((-2147483648 ≤ w0 ∧ w0 ≤ 2147483647) ∧ ((¬ w0 = 0 → post (some (xi (I 101 (21 : Int)))) (xwr I 101 (21 : Int) u1) L (gG D)) ∧ (w0 = 0 → post (some (xi (-2 : Int))) I L (gG D))))) : xR d 203 es_203 6 [xr (some 101), xi u1, xt 0] [xi w0] I L (gG D) 0 0 post := xW_R (fun k => Nat.beq k 5) 9 _ _ _ _ _ _ _ _ _ _ _ _ h
set_option maxRecDepth 8000 in
theorem w_203 {d : Nat} {I : XI} {L : XL} {D : GD} {post : XQ}   {f : Int} (hd : 1 ≤ d) (h : (((-2147483648 ≤ f ∧ f ≤ 2147483647)) ∧ ((f = (-1 : Int) → post (some (xi (I 101 (21 : Int)))) (xsc I 101 (xup (I 101) (21 : Int) f)) L (gG D)) ∧ (¬ f = (-1 : Int) → (((-2147483648 ≤ f ∧ f ≤ 2147483647) ∧ (-2147483648 ≤ (I 101 (2 : Int)) ∧ (I 101 (2 : Int)) ≤ 2147483647)) ∧ (((0 ≤ f ∧ f < I 101 (2 : Int) → post (some (xi (I 101 (21 : Int)))) (xsc I 101 (xup (I 101) (21 : Int) f)) L (gG D)) ∧ (¬ (0 ≤ f ∧ f < I 101 (2 : Int)) → post (some (xi (-2 : Int))) I L (gG D))))))))) : xR d 203 es_203 0 [xr (some 101), xi f, xt 0] [] I L (gG D) 0 0 post := sg_203_0  (⟨⟨h.1, (by decide)⟩, ⟨fun q168 => (h.2.1 q168), fun q169 => (xR_cF rfl rfl rfl (c_187 (h.2.2 q169).1) (by omega) (sg_203_6  ⟨(xb_rg _), ⟨fun q166 => ((h.2.2 q169).2.1 (xb_n0 q166)), fun q167 => ((h.2.2 q169).2.2 (xb_0 q167))⟩⟩))⟩⟩)
theorem c_203 {I : XI} {L : XL} {D : GD}   {f : Int} (h : ((-2147483648 ≤ f ∧ f ≤ 2147483647) ∧ (-2147483648 ≤ (I 101 (2 : Int)) ∧ (I 101 (2 : Int)) ≤ 2147483647))) : xM 1 203 [xr (some 101), xi f] I L (gG D) (0, 0) (xD (some (xi (qforce f (I 101 (21 : Int)) (I 101 (2 : Int))))) (xsc I 101 (xup (I 101) (21 : Int) (qforced f (I 101 (21 : Int)) (I 101 (2 : Int))))) L (gG D)) := by
  intro d hd
  have h1 := h.1
  have h2 := h.2
  refine w_203 (by omega) ?_
  repeat' first | (with_reducible intro _) | (with_reducible refine And.intro ?_ ?_)
  all_goals first | omega | skip
  all_goals refine xD_eq ?_ ?_ rfl
  all_goals (try unfold qforce)
  all_goals (try unfold qforced)
  all_goals ((repeat' split) <;> first | rfl | omega | exact (xs_self _ _ _).symm)
set_option maxRecDepth 8000 in
theorem sg_204_0 {d : Nat} {I : XI} {L : XL} {D : GD} {post : XQ}  {u1 : Int} {u2 : Int} (h : xR d 204 es_204 2 [xr (some 101), xi u1, xi u2] [xi u1, xr (some 101)] I L (gG D) 0 0 post) : xR d 204 es_204 0 [xr (some 101), xi u1, xi u2] [] I L (gG D) 0 0 post := xW_R (fun k => Nat.beq k 2 || Nat.beq k 8) 2 _ _ _ _ _ _ _ _ _ _ _ _ h
set_option maxRecDepth 8000 in
theorem sg_204_3 {d : Nat} {I : XI} {L : XL} {D : GD} {post : XQ}  {u1 : Int} {u2 : Int} {w0 : Int} (h : ((-2147483648 ≤ w0 ∧ w0 ≤ 2147483647) ∧ ((w0 = 0 → post (some (xi (-2 : Int))) I L (gG D)) ∧ (¬ w0 = 0 → ((-2147483648 ≤ u2 ∧ u2 ≤ 2147483647) ∧ xR d 204 es_204 8 [xr (some 101), xi u1, xi u2] [xl (Int64.ofInt 2), xl (0 : Int64), xl (Int64.ofInt u2)] I L (gG D) 0 0 post))))) : xR d 204 es_204 3 [xr (some 101), xi u1, xi u2] [xi w0] I L (gG D) 0 0 post := xW_R (fun k => Nat.beq k 2 || Nat.beq k 8) 5 _ _ _ _ _ _ _ _ _ _ _ _ h
set_option maxRecDepth 8000 in
theorem sg_204_9 {d : Nat} {I : XI} {L : XL} {D : GD} {post : XQ}  {u1 : Int} {u2 : Int} {w0 : Int} (h : ((-2147483648 ≤ w0 ∧ w0 ≤ 2147483647) ∧ ((¬ w0 = 0 → ((-2147483648 ≤ u2 ∧ u2 ≤ 2147483647) ∧ ((¬ u2 = 0 → (((-2147483648 ≤ u2 ∧ u2 ≤ 2147483647) ∧ (-2147483648 ≤ (1 : Int) ∧ (1 : Int) ≤ 2147483647)) ∧ ((¬ u2 = (1 : Int) → ((0 ≤ ((11 : Int) + u1) ∧ ((11 : Int) + u1) < (102 : Int)) ∧ post (some (xi (I 111 ((11 : Int) + u1)))) I L (gG D))) ∧ (u2 = (1 : Int) → ((0 ≤ ((36 : Int) + u1) ∧ ((36 : Int) + u1) < (102 : Int)) ∧ post (some (xi (I 111 ((36 : Int) + u1)))) I L (gG D)))))) ∧ (u2 = 0 → ((0 ≤ ((26 : Int) + u1) ∧ ((26 : Int) + u1) < (102 : Int)) ∧ post (some (xi (I 111 ((26 : Int) + u1)))) I L (gG D)))))) ∧ (w0 = 0 → post (some (xi (-2 : Int))) I L (gG D))))) : xR d 204 es_204 9 [xr (some 101), xi u1, xi u2] [xi w0] I L (gG D) 0 0 post := xW_R (fun k => Nat.beq k 2 || Nat.beq k 8) 14 _ _ _ _ _ _ _ _ _ _ _ _ h
set_option maxRecDepth 8000 in
theorem w_204 {d : Nat} {I : XI} {L : XL} {D : GD} {post : XQ}   {s : Int} {what : Int} (hd : 1 ≤ d) (h : ((SO (I 111) ∧ (-2147483648 ≤ s ∧ s ≤ 2147483647)) ∧ (((¬ (0 ≤ s ∧ s < I 111 (3 : Int)) → post (some (xi (-2 : Int))) I L (gG D)) ∧ (0 ≤ s ∧ s < I 111 (3 : Int) → (((-2147483648 ≤ what ∧ what ≤ 2147483647)) ∧ (((-2147483648 ≤ what ∧ what ≤ 2147483647) ∧ (-2147483648 ≤ (0 : Int) ∧ (0 : Int) ≤ 2147483647) ∧ (-2147483648 ≤ (2 : Int) ∧ (2 : Int) ≤ 2147483647)) ∧ ((((0 : Int) ≤ what ∧ what ≤ (2 : Int) → (((¬ what = 0 → (((¬ what = (1 : Int) → (((0 ≤ ((11 : Int) + s) ∧ ((11 : Int) + s) < (102 : Int))) ∧ post (some (xi (I 111 ((11 : Int) + s)))) I L (gG D))) ∧ (what = (1 : Int) → (((0 ≤ ((36 : Int) + s) ∧ ((36 : Int) + s) < (102 : Int))) ∧ post (some (xi (I 111 ((36 : Int) + s)))) I L (gG D)))))) ∧ (what = 0 → (((0 ≤ ((26 : Int) + s) ∧ ((26 : Int) + s) < (102 : Int))) ∧ post (some (xi (I 111 ((26 : Int) + s)))) I L (gG D)))))) ∧ (¬ ((0 : Int) ≤ what ∧ what ≤ (2 : Int)) → post (some (xi (-2 : Int))) I L (gG D))))))))))) : xR d 204 es_204 0 [xr (some 101), xi s, xi what] [] I L (gG D) 0 0 post := sg_204_0  ((xR_cF rfl rfl rfl (c_193 h.1) (by omega) (sg_204_3  ⟨(xb_rg _), ⟨fun q176 => (h.2.1 (xb_0 q176)), fun q177 => ⟨(h.2.2 (xb_n0 q177)).1, (xR_cF rfl rfl rfl (c_147 (h.2.2 (xb_n0 q177)).2.1) (by omega) (sg_204_9  ⟨(xb_rg _), ⟨fun q174 => ⟨(h.2.2 (xb_n0 q177)).1, ⟨fun q172 => ⟨⟨(h.2.2 (xb_n0 q177)).1, (by decide)⟩, ⟨fun q170 => ⟨((((h.2.2 (xb_n0 q177)).2.2.1 (xb_n0 q174)).1 q172).1 q170).1, ((((h.2.2 (xb_n0 q177)).2.2.1 (xb_n0 q174)).1 q172).1 q170).2⟩, fun q171 => ⟨((((h.2.2 (xb_n0 q177)).2.2.1 (xb_n0 q174)).1 q172).2 q171).1, ((((h.2.2 (xb_n0 q177)).2.2.1 (xb_n0 q174)).1 q172).2 q171).2⟩⟩⟩, fun q173 => ⟨(((h.2.2 (xb_n0 q177)).2.2.1 (xb_n0 q174)).2 q173).1, (((h.2.2 (xb_n0 q177)).2.2.1 (xb_n0 q174)).2 q173).2⟩⟩⟩, fun q175 => ((h.2.2 (xb_n0 q177)).2.2.2 (xb_0 q175))⟩⟩))⟩⟩⟩)))
theorem c_204 {I : XI} {L : XL} {D : GD}   {s : Int} {what : Int} (h : (SO (I 111) ∧ (-2147483648 ≤ s ∧ s ≤ 2147483647) ∧ (-2147483648 ≤ what ∧ what ≤ 2147483647))) : xM 1 204 [xr (some 101), xi s, xi what] I L (gG D) (0, 0) (xD (some (xi (qslice (I 111) s what))) I L (gG D)) := by
  intro d hd
  obtain ⟨hS, h1, h2⟩ := h
  have hn := hS.n
  refine w_204 (by omega) ?_
  repeat' first | (with_reducible intro _) | (with_reducible refine And.intro ?_ ?_)
  all_goals first | omega | exact xD_in | assumption | (refine xD_eq ?_ rfl rfl; unfold qslice; (repeat' split) <;> first | rfl | omega)
set_option maxRecDepth 8000 in
theorem sg_205_0 {d : Nat} {I : XI} {L : XL} {D : GD} {post : XQ}  {u1 : Int} {u2 : Int} (h : xR d 205 es_205 2 [xr (some 101), xi u1, xi u2] [xi u1, xr (some 101)] I L (gG D) 0 0 post) : xR d 205 es_205 0 [xr (some 101), xi u1, xi u2] [] I L (gG D) 0 0 post := xW_R (fun k => Nat.beq k 2 || Nat.beq k 8 || Nat.beq k 42 || Nat.beq k 46) 2 _ _ _ _ _ _ _ _ _ _ _ _ h
set_option maxRecDepth 8000 in
theorem sg_205_3 {d : Nat} {I : XI} {L : XL} {D : GD} {post : XQ}  {u1 : Int} {u2 : Int} {w0 : Int} (h : ((-2147483648 ≤ w0 ∧ w0 ≤ 2147483647) ∧ ((w0 = 0 → post (some (xi (-1 : Int))) I L (gG D)) ∧ (¬ w0 = 0 → ((-2147483648 ≤ u2 ∧ u2 ≤ 2147483647) ∧ xR d 205 es_205 8 [xr (some 101), xi u1, xi u2] [xl (Int64.ofInt 6), xl (0 : Int64), xl (Int64.ofInt u2)] I L (gG D) 0 0 post))))) : xR d 205 es_205 3 [xr (some 101), xi u1, xi u2] [xi w0] I L (gG D) 0 0 post := xW_R (fun k => Nat.beq k 2 || Nat.beq k 8 || Nat.beq k 42 || Nat.beq k 46) 5 _ _ _ _ _ _ _ _ _ _ _ _ h
set_option maxRecDepth 8000 in
theorem sg_205_9 {d : Nat} {I : XI} {L : XL} {D : GD} {post : XQ}  {u1 : Int} {u2 : Int} {w0 : Int} (h : ((-2147483648 ≤ w0 ∧ w0 ≤ 2147483647) ∧ ((¬ w0 = 0 → (((-2147483648 ≤ u2 ∧ u2 ≤ 2147483647) ∧ (-2147483648 ≤ (2 : Int) ∧ (2 : Int) ≤ 2147483647)) ∧ ((u2 ≤ (2 : Int) → ((-2147483648 ≤ u2 ∧ u2 ≤ 2147483647) ∧ ((¬ u2 = 0 → (((-2147483648 ≤ u2 ∧ u2 ≤ 2147483647) ∧ (-2147483648 ≤ (1 : Int) ∧ (1 : Int) ≤ 2147483647)) ∧ ((¬ u2 = (1 : Int) → xR d 205 es_205 46 [xr (some 101), xi u1, xi u2] [xi u1, xr (some 101)] I L (gG D) 0 0 post) ∧ (u2 = (1 : Int) → xR d 205 es_205 42 [xr (some 101), xi u1, xi u2] [xi u1, xr (some 101)] I L (gG D) 0 0 post)))) ∧ (u2 = 0 → ((0 ≤ ((21 : Int) + u1) ∧ ((21 : Int) + u1) < (102 : Int)) ∧ post (some (xi (I 111 ((21 : Int) + u1)))) I L (gG D)))))) ∧ ((2 : Int) < u2 → ((0 ≤ ((((51 : Int) + ((4 : Int) * u1)) + u2) - (3 : Int)) ∧ ((((51 : Int) + ((4 : Int) * u1)) + u2) - (3 : Int)) < (102 : Int)) ∧ post (some (xi (I 111 ((((51 : Int) + ((4 : Int) * u1)) + u2) - (3 : Int))))) I L (gG D)))))) ∧ (w0 = 0 → post (some (xi (-1 : Int))) I L (gG D))))) : xR d 205 es_205 9 [xr (some 101), xi u1, xi u2] [xi w0] I L (gG D) 0 0 post := xW_R (fun k => Nat.beq k 2 || Nat.beq k 8 || Nat.beq k 42 || Nat.beq k 46) 17 _ _ _ _ _ _ _ _ _ _ _ _ h
set_option maxRecDepth 8000 in
theorem sg_205_47 {d : Nat} {I : XI} {L : XL} {D : GD} {post : XQ}  {u1 : Int} {u2 : Int} {w0 : Int} (h : post (some (xi w0)) I L (gG D)) : xR d 205 es_205 47 [xr (some 101), xi u1, xi u2] [xi w0] I L (gG D) 0 0 post := xW_R (fun k => Nat.beq k 2 || Nat.beq k 8 || Nat.beq k 42 || Nat.beq k 46) 1 _ _ _ _ _ _ _ _ _ _ _ _ h
set_option maxRecDepth 8000 in
theorem sg_205_43 {d : Nat} {I : XI} {L : XL} {D : GD} {post : XQ}  {u1 : Int} {u2 : Int} {w0 : Int} (h : post (some (xi w0)) I L (gG D)) : xR d 205 es_205 43 [xr (some 101), xi u1, xi u2] [xi w0] I L (gG D) 0 0 post := xW_R (fun k => Nat.beq k 2 || Nat.beq k 8 || Nat.beq k 42 || Nat.beq k 46) 2 _ _ _ _ _ _ _ _ _ _ _ _ h
set_option maxRecDepth 8000 in
theorem w_205 {d : Nat} {I : XI} {L : XL} {D : GD} {post : XQ}   {g : Int} {what : Int} (hd : 4 ≤ d) (h : ((SO (I 111) ∧ (-2147483648 ≤ g ∧ g ≤ 2147483647)) ∧ (((¬ (0 ≤ g ∧ g < I 111 (4 : Int)) → post (some (xi (-1 : Int))) I L (gG D)) ∧ (0 ≤ g ∧ g < I 111 (4 : Int) → (((-2147483648 ≤ what ∧ what ≤ 2147483647)) ∧ (((-2147483648 ≤ what ∧ what ≤ 2147483647) ∧ (-2147483648 ≤ (0 : Int) ∧ (0 : Int) ≤ 2147483647) ∧ (-2147483648 ≤ (6 : Int) ∧ (6 : Int) ≤ 2147483647)) ∧ ((((0 : Int) ≤ what ∧ what ≤ (6 : Int) → (((what ≤ (2 : Int) → (((¬ what = 0 → (((¬ what = (1 : Int) → post (some (xi (pslices (I 111) g))) I L (gG D)) ∧ (what = (1 : Int) → ((SO (I 111) ∧ (0 ≤ g ∧ g < 5)) ∧ post (some (xi (phas (I 111) g))) I L (gG D)))))) ∧ (what = 0 → (((0 ≤ ((21 : Int) + g) ∧ ((21 : Int) + g) < (102 : Int))) ∧ post (some (xi (I 111 ((21 : Int) + g)))) I L (gG D)))))) ∧ ((2 : Int) < what → (((0 ≤ ((((51 : Int) + ((4 : Int) * g)) + what) - (3 : Int)) ∧ ((((51 : Int) + ((4 : Int) * g)) + what) - (3 : Int)) < (102 : Int))) ∧ post (some (xi (I 111 ((((51 : Int) + ((4 : Int) * g)) + what) - (3 : Int))))) I L (gG D)))))) ∧ (¬ ((0 : Int) ≤ what ∧ what ≤ (6 : Int)) → post (some (xi (-1 : Int))) I L (gG D))))))))))) : xR d 205 es_205 0 [xr (some 101), xi g, xi what] [] I L (gG D) 0 0 post := sg_205_0  ((xR_cF rfl rfl rfl (c_194 h.1) (by omega) (sg_205_3  ⟨(xb_rg _), ⟨fun q186 => (h.2.1 (xb_0 q186)), fun q187 => ⟨(h.2.2 (xb_n0 q187)).1, (xR_cF rfl rfl rfl (c_147 (h.2.2 (xb_n0 q187)).2.1) (by omega) (sg_205_9  ⟨(xb_rg _), ⟨fun q184 => ⟨⟨(h.2.2 (xb_n0 q187)).1, (by decide)⟩, ⟨fun q182 => ⟨(h.2.2 (xb_n0 q187)).1, ⟨fun q180 => ⟨⟨(h.2.2 (xb_n0 q187)).1, (by decide)⟩, ⟨fun q178 => (xR_cF rfl rfl rfl (c_197 h.1) (by omega) (sg_205_47  (((((h.2.2 (xb_n0 q187)).2.2.1 (xb_n0 q184)).1 q182).1 q180).1 q178))), fun q179 => (xR_cF rfl rfl rfl (c_199 (((((h.2.2 (xb_n0 q187)).2.2.1 (xb_n0 q184)).1 q182).1 q180).2 q179).1) (by omega) (sg_205_43  (((((h.2.2 (xb_n0 q187)).2.2.1 (xb_n0 q184)).1 q182).1 q180).2 q179).2))⟩⟩, fun q181 => ⟨((((h.2.2 (xb_n0 q187)).2.2.1 (xb_n0 q184)).1 q182).2 q181).1, ((((h.2.2 (xb_n0 q187)).2.2.1 (xb_n0 q184)).1 q182).2 q181).2⟩⟩⟩, fun q183 => ⟨(((h.2.2 (xb_n0 q187)).2.2.1 (xb_n0 q184)).2 q183).1, (((h.2.2 (xb_n0 q187)).2.2.1 (xb_n0 q184)).2 q183).2⟩⟩⟩, fun q185 => ((h.2.2 (xb_n0 q187)).2.2.2 (xb_0 q185))⟩⟩))⟩⟩⟩)))
theorem c_205 {I : XI} {L : XL} {D : GD}   {g : Int} {what : Int} (h : (SO (I 111) ∧ (-2147483648 ≤ g ∧ g ≤ 2147483647) ∧ (-2147483648 ≤ what ∧ what ≤ 2147483647))) : xM 4 205 [xr (some 101), xi g, xi what] I L (gG D) (0, 0) (xD (some (xi (qguest (I 111) g what))) I L (gG D)) := by
  intro d hd
  obtain ⟨hS, h1, h2⟩ := h
  have hn := hS.g
  refine w_205 (by omega) ?_
  repeat' first | (with_reducible intro _) | (with_reducible refine And.intro ?_ ?_)
  all_goals first | omega | exact xD_in | assumption | (refine xD_eq ?_ rfl rfl; unfold qguest; (repeat' split) <;> first | rfl | omega)
set_option maxRecDepth 8000 in
theorem sg_254_0 {d : Nat} {I : XI} {L : XL} {D : GD} {post : XQ}  {u1 : Int} (h : ((-2147483648 ≤ u1 ∧ u1 ≤ 2147483647) ∧ ((0 ≤ u1 → post (some (xi (I 101 (22 : Int)))) (xwr I 101 (22 : Int) u1) L (gG D)) ∧ (u1 < 0 → post (some (xi (-1 : Int))) I L (gG D))))) : xR d 254 es_254 0 [xr (some 101), xi u1, xt 0] [] I L (gG D) 0 0 post := xW_R (fun k => false) 10 _ _ _ _ _ _ _ _ _ _ _ _ h
set_option maxRecDepth 8000 in
theorem w_254 {d : Nat} {I : XI} {L : XL} {D : GD} {post : XQ}   {x : Int} (hd : 0 ≤ d) (h : (((-2147483648 ≤ x ∧ x ≤ 2147483647)) ∧ ((0 ≤ x → post (some (xi (I 101 (22 : Int)))) (xsc I 101 (xup (I 101) (22 : Int) x)) L (gG D)) ∧ (x < 0 → post (some (xi (-1 : Int))) I L (gG D))))) : xR d 254 es_254 0 [xr (some 101), xi x, xt 0] [] I L (gG D) 0 0 post := sg_254_0  (⟨h.1, ⟨fun q188 => (h.2.1 q188), fun q189 => (h.2.2 q189)⟩⟩)
theorem c_254 {I : XI} {L : XL} {D : GD}   {x : Int} (h : (-2147483648 ≤ x ∧ x ≤ 2147483647)) : xM 0 254 [xr (some 101), xi x] I L (gG D) (0, 0) (xD (some (xi (if x < 0 then -1 else I 101 (22 : Int)))) (xsc I 101 (xup (I 101) (22 : Int) (if x < 0 then I 101 (22 : Int) else x))) L (gG D)) := by
  intro d hd
  refine w_254 (by omega) ?_
  repeat' first | (with_reducible intro _) | (with_reducible refine And.intro ?_ ?_)
  all_goals first | omega | skip
  all_goals first | (rw [if_pos (by assumption), if_pos (by assumption)]; exact xD_eq rfl (xs_self _ _ _).symm rfl) | (rw [if_neg (by omega), if_neg (by omega)]; exact xD_in)
def qcount (a : Int → Int) (rs f u x tp what : Int) : Int := if what = 0 then a 1 else if what = 1 then a 2 else if what = 2 then a 3 else if what = 3 then a 4 else if what = 4 then rs else if what = 5 then f else if what = 6 then a 10 else if what = 7 then pwhose a else if what = 8 then pslices a (-1) else if what = 9 then pcontent a else if what = 10 then a 101 else if what = 11 then u else if what = 12 then x else if what = 13 then tp else -1
set_option maxRecDepth 8000 in
theorem sg_257_0 {d : Nat} {I : XI} {L : XL} {D : GD} {post : XQ}  {u1 : Int} (h : ((-2147483648 ≤ u1 ∧ u1 ≤ 2147483647) ∧ ((u1 = (0 : Int) → ((0 ≤ (u1 + (1 : Int)) ∧ (u1 + (1 : Int)) < (102 : Int)) ∧ post (some (xi (I 111 (u1 + (1 : Int))))) I L (gG D))) ∧ (¬ u1 = (0 : Int) → ((u1 = (1 : Int) → ((0 ≤ (u1 + (1 : Int)) ∧ (u1 + (1 : Int)) < (102 : Int)) ∧ post (some (xi (I 111 (u1 + (1 : Int))))) I L (gG D))) ∧ (¬ u1 = (1 : Int) → ((u1 = (2 : Int) → ((0 ≤ (u1 + (1 : Int)) ∧ (u1 + (1 : Int)) < (102 : Int)) ∧ post (some (xi (I 111 (u1 + (1 : Int))))) I L (gG D))) ∧ (¬ u1 = (2 : Int) → ((u1 = (3 : Int) → ((0 ≤ (u1 + (1 : Int)) ∧ (u1 + (1 : Int)) < (102 : Int)) ∧ post (some (xi (I 111 (u1 + (1 : Int))))) I L (gG D))) ∧ (¬ u1 = (3 : Int) → ((u1 = (4 : Int) → post (some (xi (I 101 (2 : Int)))) I L (gG D)) ∧ (¬ u1 = (4 : Int) → ((u1 = (5 : Int) → post (some (xi (I 101 (21 : Int)))) I L (gG D)) ∧ (¬ u1 = (5 : Int) → ((u1 = (6 : Int) → ((0 ≤ (10 : Int) ∧ (10 : Int) < (102 : Int)) ∧ post (some (xi (I 111 (10 : Int)))) I L (gG D))) ∧ (¬ u1 = (6 : Int) → ((u1 = (7 : Int) → xR d 257 es_257 21 [xr (some 101), xi u1] [xr (some 101)] I L (gG D) 0 0 post) ∧ (¬ u1 = (7 : Int) → ((u1 = (8 : Int) → xR d 257 es_257 25 [xr (some 101), xi u1] [xi (-1 : Int), xr (some 101)] I L (gG D) 0 0 post) ∧ (¬ u1 = (8 : Int) → ((u1 = (9 : Int) → xR d 257 es_257 28 [xr (some 101), xi u1] [xr (some 101)] I L (gG D) 0 0 post) ∧ (¬ u1 = (9 : Int) → ((u1 = (10 : Int) → ((0 ≤ (101 : Int) ∧ (101 : Int) < (102 : Int)) ∧ post (some (xi (I 111 (101 : Int)))) I L (gG D))) ∧ (¬ u1 = (10 : Int) → ((u1 = (11 : Int) → post (some (xi (I 101 (25 : Int)))) I L (gG D)) ∧ (¬ u1 = (11 : Int) → ((u1 = (12 : Int) → post (some (xi (I 101 (22 : Int)))) I L (gG D)) ∧ (¬ u1 = (12 : Int) → ((u1 = (13 : Int) → post (some (xi (I 101 (1 : Int)))) I L (gG D)) ∧ (¬ u1 = (13 : Int) → post (some (xi (-1 : Int))) I L (gG D))))))))))))))))))))))))))))))) : xR d 257 es_257 0 [xr (some 101), xi u1] [] I L (gG D) 0 0 post := xW_R (fun k => Nat.beq k 21 || Nat.beq k 25 || Nat.beq k 28) 9 _ _ _ _ _ _ _ _ _ _ _ _ h
set_option maxRecDepth 8000 in
theorem sg_257_22 {d : Nat} {I : XI} {L : XL} {D : GD} {post : XQ}  {u1 : Int} {w0 : Int} (h : post (some (xi w0)) I L (gG D)) : xR d 257 es_257 22 [xr (some 101), xi u1] [xi w0] I L (gG D) 0 0 post := xW_R (fun k => Nat.beq k 21 || Nat.beq k 25 || Nat.beq k 28) 1 _ _ _ _ _ _ _ _ _ _ _ _ h
set_option maxRecDepth 8000 in
theorem sg_257_26 {d : Nat} {I : XI} {L : XL} {D : GD} {post : XQ}  {u1 : Int} {w0 : Int} (h : post (some (xi w0)) I L (gG D)) : xR d 257 es_257 26 [xr (some 101), xi u1] [xi w0] I L (gG D) 0 0 post := xW_R (fun k => Nat.beq k 21 || Nat.beq k 25 || Nat.beq k 28) 1 _ _ _ _ _ _ _ _ _ _ _ _ h
set_option maxRecDepth 8000 in
theorem sg_257_29 {d : Nat} {I : XI} {L : XL} {D : GD} {post : XQ}  {u1 : Int} {w0 : Int} (h : post (some (xi w0)) I L (gG D)) : xR d 257 es_257 29 [xr (some 101), xi u1] [xi w0] I L (gG D) 0 0 post := xW_R (fun k => Nat.beq k 21 || Nat.beq k 25 || Nat.beq k 28) 1 _ _ _ _ _ _ _ _ _ _ _ _ h
set_option maxRecDepth 8000 in
theorem w_257 {d : Nat} {I : XI} {L : XL} {D : GD} {post : XQ}   {what : Int} (hd : 6 ≤ d) (h : (((-2147483648 ≤ what ∧ what ≤ 2147483647)) ∧ (((what = (0 : Int) → (((0 ≤ (what + (1 : Int)) ∧ (what + (1 : Int)) < (102 : Int))) ∧ post (some (xi (I 111 (what + (1 : Int))))) I L (gG D))) ∧ (¬ what = (0 : Int) → (((what = (1 : Int) → (((0 ≤ (what + (1 : Int)) ∧ (what + (1 : Int)) < (102 : Int))) ∧ post (some (xi (I 111 (what + (1 : Int))))) I L (gG D))) ∧ (¬ what = (1 : Int) → (((what = (2 : Int) → (((0 ≤ (what + (1 : Int)) ∧ (what + (1 : Int)) < (102 : Int))) ∧ post (some (xi (I 111 (what + (1 : Int))))) I L (gG D))) ∧ (¬ what = (2 : Int) → (((what = (3 : Int) → (((0 ≤ (what + (1 : Int)) ∧ (what + (1 : Int)) < (102 : Int))) ∧ post (some (xi (I 111 (what + (1 : Int))))) I L (gG D))) ∧ (¬ what = (3 : Int) → (((what = (4 : Int) → post (some (xi (I 101 (2 : Int)))) I L (gG D)) ∧ (¬ what = (4 : Int) → (((what = (5 : Int) → post (some (xi (I 101 (21 : Int)))) I L (gG D)) ∧ (¬ what = (5 : Int) → (((what = (6 : Int) → post (some (xi (I 111 (10 : Int)))) I L (gG D)) ∧ (¬ what = (6 : Int) → (((what = (7 : Int) → (SO (I 111) ∧ post (some (xi (pwhose (I 111)))) I L (gG D))) ∧ (¬ what = (7 : Int) → (((what = (8 : Int) → ((SO (I 111) ∧ (-2147483648 ≤ (-1 : Int) ∧ (-1 : Int) ≤ 2147483647)) ∧ post (some (xi (pslices (I 111) (-1 : Int)))) I L (gG D))) ∧ (¬ what = (8 : Int) → (((what = (9 : Int) → (SO (I 111) ∧ post (some (xi (pcontent (I 111)))) I L (gG D))) ∧ (¬ what = (9 : Int) → (((what = (10 : Int) → post (some (xi (I 111 (101 : Int)))) I L (gG D)) ∧ (¬ what = (10 : Int) → (((what = (11 : Int) → post (some (xi (I 101 (25 : Int)))) I L (gG D)) ∧ (¬ what = (11 : Int) → (((what = (12 : Int) → post (some (xi (I 101 (22 : Int)))) I L (gG D)) ∧ (¬ what = (12 : Int) → (((what = (13 : Int) → post (some (xi (I 101 (1 : Int)))) I L (gG D)) ∧ (¬ what = (13 : Int) → post (some (xi (-1 : Int))) I L (gG D))))))))))))))))))))))))))))))))))))))))))))) : xR d 257 es_257 0 [xr (some 101), xi what] [] I L (gG D) 0 0 post := sg_257_0  (⟨h.1, ⟨fun q216 => ⟨(h.2.1 q216).1, (h.2.1 q216).2⟩, fun q217 => ⟨fun q214 => ⟨((h.2.2 q217).1 q214).1, ((h.2.2 q217).1 q214).2⟩, fun q215 => ⟨fun q212 => ⟨(((h.2.2 q217).2 q215).1 q212).1, (((h.2.2 q217).2 q215).1 q212).2⟩, fun q213 => ⟨fun q210 => ⟨((((h.2.2 q217).2 q215).2 q213).1 q210).1, ((((h.2.2 q217).2 q215).2 q213).1 q210).2⟩, fun q211 => ⟨fun q208 => (((((h.2.2 q217).2 q215).2 q213).2 q211).1 q208), fun q209 => ⟨fun q206 => ((((((h.2.2 q217).2 q215).2 q213).2 q211).2 q209).1 q206), fun q207 => ⟨fun q204 => ⟨(by decide), (((((((h.2.2 q217).2 q215).2 q213).2 q211).2 q209).2 q207).1 q204)⟩, fun q205 => ⟨fun q202 => (xR_cF rfl rfl rfl (c_209 ((((((((h.2.2 q217).2 q215).2 q213).2 q211).2 q209).2 q207).2 q205).1 q202).1) (by omega) (sg_257_22  ((((((((h.2.2 q217).2 q215).2 q213).2 q211).2 q209).2 q207).2 q205).1 q202).2)), fun q203 => ⟨fun q200 => (xR_cF rfl rfl rfl (c_197 (((((((((h.2.2 q217).2 q215).2 q213).2 q211).2 q209).2 q207).2 q205).2 q203).1 q200).1) (by omega) (sg_257_26  (((((((((h.2.2 q217).2 q215).2 q213).2 q211).2 q209).2 q207).2 q205).2 q203).1 q200).2)), fun q201 => ⟨fun q198 => (xR_cF rfl rfl rfl (c_201 ((((((((((h.2.2 q217).2 q215).2 q213).2 q211).2 q209).2 q207).2 q205).2 q203).2 q201).1 q198).1) (by omega) (sg_257_29  ((((((((((h.2.2 q217).2 q215).2 q213).2 q211).2 q209).2 q207).2 q205).2 q203).2 q201).1 q198).2)), fun q199 => ⟨fun q196 => ⟨(by decide), (((((((((((h.2.2 q217).2 q215).2 q213).2 q211).2 q209).2 q207).2 q205).2 q203).2 q201).2 q199).1 q196)⟩, fun q197 => ⟨fun q194 => ((((((((((((h.2.2 q217).2 q215).2 q213).2 q211).2 q209).2 q207).2 q205).2 q203).2 q201).2 q199).2 q197).1 q194), fun q195 => ⟨fun q192 => (((((((((((((h.2.2 q217).2 q215).2 q213).2 q211).2 q209).2 q207).2 q205).2 q203).2 q201).2 q199).2 q197).2 q195).1 q192), fun q193 => ⟨fun q190 => ((((((((((((((h.2.2 q217).2 q215).2 q213).2 q211).2 q209).2 q207).2 q205).2 q203).2 q201).2 q199).2 q197).2 q195).2 q193).1 q190), fun q191 => ((((((((((((((h.2.2 q217).2 q215).2 q213).2 q211).2 q209).2 q207).2 q205).2 q203).2 q201).2 q199).2 q197).2 q195).2 q193).2 q191)⟩⟩⟩⟩⟩⟩⟩⟩⟩⟩⟩⟩⟩⟩⟩)
theorem c_257 {I : XI} {L : XL} {D : GD}   {what : Int} (h : (SO (I 111) ∧ (-2147483648 ≤ what ∧ what ≤ 2147483647))) : xM 6 257 [xr (some 101), xi what] I L (gG D) (0, 0) (xD (some (xi (qcount (I 111) (I 101 (2 : Int)) (I 101 (21 : Int)) (I 101 (25 : Int)) (I 101 (22 : Int)) (I 101 (1 : Int)) what))) I L (gG D)) := by
  intro d hd
  obtain ⟨hS, h1⟩ := h
  refine w_257 (by omega) ?_
  repeat' first | (with_reducible intro _) | (with_reducible refine And.intro ?_ ?_)
  all_goals first | omega | assumption | (subst_vars; exact xD_in) | (refine xD_eq ?_ rfl rfl; unfold qcount; subst_vars; rfl) | (refine xD_eq ?_ rfl rfl; unfold qcount; (repeat' split) <;> first | rfl | omega)
def ppassn (f : Int) (R : (Int → Int64) → Int64) (kk : Int) : Nat → (Int → Int) → (Int → Int)
  | 0, a => a
  | n + 1, a => ppass f R kk (ppassn f R kk n a)
theorem ppass_turn {f : Int} {R : (Int → Int64) → Int64} {kk : Int} {a : Int → Int} : ppass f R kk a 10 = a 10 + 1 := xup_same _ _ _
theorem ppassn_turn {f : Int} {R : (Int → Int64) → Int64} {kk : Int} {a : Int → Int} (n : Nat) : ppassn f R kk n a 10 = a 10 + (n : Int) := by
  induction n with
  | zero => show a 10 = a 10 + 0; omega
  | succ n ih => show ppass f R kk _ 10 = _; rw [ppass_turn, ih]; omega
theorem SO_passn {f : Int} {R : (Int → Int64) → Int64} {kk : Int} {a : Int → Int} (h : SO a) (n : Nat) (hn : a 10 + (n : Int) ≤ 2000) : SO (ppassn f R kk n a) := by
  induction n with
  | zero => exact h
  | succ n ih => exact SO_pass (ih (by omega)) (by rw [ppassn_turn]; omega)
theorem ppass_out {f : Int} {R : (Int → Int64) → Int64} {kk : Int} {a : Int → Int} (h : SO a) {j : Int} (hj : j < 10 ∨ 21 ≤ j) : ppass f R kk a j = a j := by
  have hn := h.n
  have h3 := ppick_rg (f := f) (R := R) (kk := kk) h
  unfold ppass
  rw [xup_ne _ _ (by omega)]
  split
  · rw [xup_ne _ _ (by omega)]
  · rfl
theorem ppassn_out {f : Int} {R : (Int → Int64) → Int64} {kk : Int} {a : Int → Int} (h : SO a) {j : Int} (hj : j < 10 ∨ 21 ≤ j) (n : Nat) (hn : a 10 + (n : Int) ≤ 2000) : ppassn f R kk n a j = a j := by
  induction n with
  | zero => rfl
  | succ n ih => show ppass f R kk _ j = _; rw [ppass_out (SO_passn h n (by omega)) hj, ih (by omega)]
set_option maxRecDepth 8000 in
theorem sg_222_0 {d : Nat} {I : XI} {L : XL} {D : GD} {post : XQ}  {u1 : Int} (h : xR d 222 es_222 2 [xr (some 101), xi u1, xi (0 : Int)] [] I L (gG D) 0 0 post) : xR d 222 es_222 0 [xr (some 101), xi u1, xt 0] [] I L (gG D) 0 0 post := xW_R (fun k => Nat.beq k 2 || Nat.beq k 6) 2 _ _ _ _ _ _ _ _ _ _ _ _ h
set_option maxRecDepth 8000 in
theorem w_222 {d : Nat} {I : XI} {L : XL} {D : GD} {post : XQ}   {n : Int} (hd : 0 ≤ d) (h : xR d 222 es_222 2 [xr (some 101), xi n, xi (0 : Int)] [] I L (gG D) 0 0 post) : xR d 222 es_222 0 [xr (some 101), xi n, xt 0] [] I L (gG D) 0 0 post := sg_222_0  (h)
set_option maxRecDepth 8000 in
theorem sg_222_2 {d : Nat} {I : XI} {L : XL} {D : GD} {post : XQ}  {u1 : Int} {u2 : Int} (h : (((-2147483648 ≤ u2 ∧ u2 ≤ 2147483647) ∧ (-2147483648 ≤ u1 ∧ u1 ≤ 2147483647)) ∧ ((u1 ≤ u2 → post none I L (gG D)) ∧ (u2 < u1 → xR d 222 es_222 6 [xr (some 101), xi u1, xi u2] [xr (some 101)] I L (gG D) 0 0 post)))) : xR d 222 es_222 2 [xr (some 101), xi u1, xi u2] [] I L (gG D) 0 0 post := xW_R (fun k => Nat.beq k 2 || Nat.beq k 6) 4 _ _ _ _ _ _ _ _ _ _ _ _ h
set_option maxRecDepth 8000 in
theorem sg_222_7 {d : Nat} {I : XI} {L : XL} {D : GD} {post : XQ}  {u1 : Int} {u2 : Int} {w0 : Int} (h : xR d 222 es_222 2 [xr (some 101), xi u1, xi (u2 + (1 : Int))] [] I L (gG D) 0 0 post) : xR d 222 es_222 7 [xr (some 101), xi u1, xi u2] [xi w0] I L (gG D) 0 0 post := xW_R (fun k => Nat.beq k 2 || Nat.beq k 6) 3 _ _ _ _ _ _ _ _ _ _ _ _ h
set_option maxRecDepth 8000 in
theorem b_222 {d : Nat} {I : XI} {L : XL} {D : GD} {post : XQ} {tp : Int} {K W : Int → Int64} {rw_ : Int → Int}  {n : Int} {i0 : Int} (hd : 7 ≤ d) (h : (((-2147483648 ≤ i0 ∧ i0 ≤ 2147483647) ∧ (-2147483648 ≤ n ∧ n ≤ 2147483647)) ∧ ((n ≤ i0 → post none (xsc (xsc I 101 (xup (I 101) (18 : Int) tp)) 111 rw_) (xsc (xsc L 109 K) 110 W) (gG D)) ∧ (i0 < n → ((SO rw_ ∧ rw_ (10 : Int) < 2000 ∧ RO (I 103) (I 105) (I 106) (I 101 (21 : Int))) ∧ (∀ (e218 : Int) (e219 : Int → Int64) (e220 : Int → Int64), xR d 222 es_222 2 [xr (some 101), xi n, xi (i0 + (1 : Int))] [] (xsc (xsc I 101 (xup (I 101) (18 : Int) e218)) 111 (ppass (I 101 (21 : Int)) (pR (I 103) (I 105) (I 106) (I 101 (21 : Int))) (I 101 (23 : Int)) rw_ )) (xsc (xsc L 109 e219) 110 e220) (gG D) 0 0 post)))))) : xR d 222 es_222 2 [xr (some 101), xi n, xi i0] [] (xsc (xsc I 101 (xup (I 101) (18 : Int) tp)) 111 rw_) (xsc (xsc L 109 K) 110 W) (gG D) 0 0 post := sg_222_2  (⟨⟨h.1.1, h.1.2⟩, ⟨fun q221 => (h.2.1 q221), fun q222 => (xR_cQ rfl rfl rfl (c_210 (h.2.2 q222).1) (by omega) (fun _ _ _ _ hx223 => by obtain ⟨e218, e219, e220, rfl, rfl, rfl, rfl⟩ := hx223; exact (sg_222_7  (xR_memc ((h.2.2 q222).2 e218 e219 e220) (funext fun i => (xpt rfl (fun h111_ => (xpt (show (xup (xup (I 101) (18 : Int) tp) (18 : Int) e218) = (xup (I 101) (18 : Int) e218) from by funext j; simp only [xup]; (repeat' split) <;> first | rfl | omega) (fun h101_ => (by simp only [xsc_ne _ _ h101_, xwr_ne _ _ _ h101_, xsc_ne _ _ h111_, xwr_ne _ _ _ h111_])))))) (funext fun i => (xpt rfl (fun h110_ => (xpt rfl (fun h109_ => (by simp only [xsc_ne _ _ h109_, xwr_ne _ _ _ h109_, xsc_ne _ _ h110_, xwr_ne _ _ _ h110_]))))))))))⟩⟩)
theorem c_222 {I : XI} {L : XL} {D : GD}   {n : Int} (h : (SO (I 111) ∧ (0 ≤ n ∧ I 111 (10 : Int) + n ≤ 2000) ∧ RO (I 103) (I 105) (I 106) (I 101 (21 : Int)))) : xM 7 222 [xr (some 101), xi n] I L (gG D) (0, 0) (fun r2 I2 L2 G2 => ∃ (tp : Int) (K : Int → Int64) (W : Int → Int64), r2 = none ∧ I2 = (xsc (xsc I 101 (xup (I 101) (18 : Int) tp)) 111 (ppassn (I 101 (21 : Int)) (pR (I 103) (I 105) (I 106) (I 101 (21 : Int))) (I 101 (23 : Int)) (n).toNat (I 111))) ∧ L2 = (xsc (xsc L 109 K) 110 W) ∧ G2 = (gG D)) := by
  intro d hd
  obtain ⟨hS, hn, hR⟩ := h
  have ht := hS.turn
  refine w_222 (by omega) ?_
  have key : ∀ k : Nat, k ≤ n.toNat → ∀ (tp : Int) (K : Int → Int64) (W : Int → Int64), xR d 222 es_222 2 [xr (some 101), xi n, xi (k : Int)] [] (xsc (xsc I 101 (xup (I 101) (18 : Int) tp)) 111 (ppassn (I 101 21) (pR (I 103) (I 105) (I 106) (I 101 21)) (I 101 23) k (I 111))) (xsc (xsc L 109 K) 110 W) (gG D) 0 0 (fun r2 I2 L2 G2 => ∃ (tp : Int) (K : Int → Int64) (W : Int → Int64), r2 = none ∧ I2 = (xsc (xsc I 101 (xup (I 101) (18 : Int) tp)) 111 (ppassn (I 101 21) (pR (I 103) (I 105) (I 106) (I 101 21)) (I 101 23) n.toNat (I 111))) ∧ L2 = (xsc (xsc L 109 K) 110 W) ∧ G2 = gG D) := by
    refine xfor ?_ ?_
    · intro tp K W
      refine b_222 (by omega) ?_
      repeat' first | (with_reducible intro _) | (with_reducible refine And.intro ?_ ?_)
      all_goals first | omega | assumption | skip
      exact ⟨tp, K, W, rfl, rfl, rfl, rfl⟩
    · intro k hk ih tp K W
      have hT := ppassn_turn (f := (I 101 21)) (R := (pR (I 103) (I 105) (I 106) (I 101 21))) (kk := (I 101 23)) (a := I 111) k
      have hS2 := SO_passn (f := (I 101 21)) (R := (pR (I 103) (I 105) (I 106) (I 101 21))) (kk := (I 101 23)) hS k (by omega)
      have hG : SO ((ppassn (I 101 21) (pR (I 103) (I 105) (I 106) (I 101 21)) (I 101 23) k (I 111))) ∧ (ppassn (I 101 21) (pR (I 103) (I 105) (I 106) (I 101 21)) (I 101 23) k (I 111)) 10 < 2000 ∧ RO (I 103) (I 105) (I 106) (I 101 21) := ⟨hS2, by omega, hR⟩
      refine b_222 (by omega) ?_
      repeat' first | (with_reducible intro _) | (with_reducible refine And.intro ?_ ?_)
      all_goals first | omega | assumption | skip
      exact ih _ _ _
  exact xR_memc (key 0 (Nat.zero_le _) (I 101 18) (L 109) (L 110)) (funext fun _ => (xpt rfl (fun _ => (xpt (xup_self _ _).symm (fun _ => rfl))))) (funext fun _ => (xpt rfl (fun _ => (xpt rfl (fun _ => rfl)))))
/-- all as the text told it -/
def pbeg (a : Int → Int) : Int → Int := fun j => if j = 10 then 0 else if 11 ≤ j ∧ j < 21 then -1 else if 21 ≤ j ∧ j < 26 then a (25 + j) else a j
set_option maxRecDepth 8000 in
theorem sg_202_0 {d : Nat} {I : XI} {L : XL} {D : GD} {post : XQ}   (h : ((0 ≤ (10 : Int) ∧ (10 : Int) < (102 : Int)) ∧ xR d 202 es_202 7 [xr (some 101), xi (0 : Int)] [] (xwr I 111 (10 : Int) (0 : Int)) L (gG D) 0 0 post)) : xR d 202 es_202 0 [xr (some 101), xt 0] [] I L (gG D) 0 0 post := xW_R (fun k => Nat.beq k 7 || Nat.beq k 21) 7 _ _ _ _ _ _ _ _ _ _ _ _ h
set_option maxRecDepth 8000 in
theorem w_202 {d : Nat} {I : XI} {L : XL} {D : GD} {post : XQ}    (hd : 0 ≤ d) (h : xR d 202 es_202 7 [xr (some 101), xi (0 : Int)] [] (xsc I 111 (xup (I 111) (10 : Int) (0 : Int))) L (gG D) 0 0 post) : xR d 202 es_202 0 [xr (some 101), xt 0] [] I L (gG D) 0 0 post := sg_202_0  (⟨(by decide), h⟩)
set_option maxRecDepth 8000 in
theorem sg_202_7 {d : Nat} {I : XI} {L : XL} {D : GD} {post : XQ}  {u1 : Int} (h : (((-2147483648 ≤ u1 ∧ u1 ≤ 2147483647) ∧ (-2147483648 ≤ (10 : Int) ∧ (10 : Int) ≤ 2147483647)) ∧ (((10 : Int) ≤ u1 → xR d 202 es_202 21 [xr (some 101), xi (0 : Int)] [] I L (gG D) 0 0 post) ∧ (u1 < (10 : Int) → ((0 ≤ ((11 : Int) + u1) ∧ ((11 : Int) + u1) < (102 : Int)) ∧ xR d 202 es_202 7 [xr (some 101), xi (u1 + (1 : Int))] [] (xwr I 111 ((11 : Int) + u1) (-1 : Int)) L (gG D) 0 0 post))))) : xR d 202 es_202 7 [xr (some 101), xi u1] [] I L (gG D) 0 0 post := xW_R (fun k => Nat.beq k 7 || Nat.beq k 21) 12 _ _ _ _ _ _ _ _ _ _ _ _ h
set_option maxRecDepth 8000 in
theorem b_202a {d : Nat} {I : XI} {L : XL} {D : GD} {post : XQ} {f : Int → Int}  {i0 : Int} (hd : 0 ≤ d) (h : (((-2147483648 ≤ i0 ∧ i0 ≤ 2147483647)) ∧ (((10 : Int) ≤ i0 → xR d 202 es_202 21 [xr (some 101), xi (0 : Int)] [] (xsc I 111 f) L (gG D) 0 0 post) ∧ (i0 < (10 : Int) → (((0 ≤ ((11 : Int) + i0) ∧ ((11 : Int) + i0) < (102 : Int))) ∧ xR d 202 es_202 7 [xr (some 101), xi (i0 + (1 : Int))] [] (xsc I 111 (xup f ((11 : Int) + i0) (-1 : Int))) L (gG D) 0 0 post))))) : xR d 202 es_202 7 [xr (some 101), xi i0] [] (xsc I 111 f) L (gG D) 0 0 post := sg_202_7  (⟨⟨h.1, (by decide)⟩, ⟨fun q225 => (h.2.1 q225), fun q226 => ⟨(h.2.2 q226).1, (xR_memc (h.2.2 q226).2 (funext fun i => (xpt rfl (fun h111_ => (by simp only [xsc_ne _ _ h111_, xwr_ne _ _ _ h111_])))) rfl)⟩⟩⟩)
set_option maxRecDepth 8000 in
theorem sg_202_21 {d : Nat} {I : XI} {L : XL} {D : GD} {post : XQ}  {u1 : Int} (h : (((-2147483648 ≤ u1 ∧ u1 ≤ 2147483647) ∧ (-2147483648 ≤ (5 : Int) ∧ (5 : Int) ≤ 2147483647)) ∧ (((5 : Int) ≤ u1 → post none I L (gG D)) ∧ (u1 < (5 : Int) → ((0 ≤ ((46 : Int) + u1) ∧ ((46 : Int) + u1) < (102 : Int)) ∧ ((0 ≤ ((21 : Int) + u1) ∧ ((21 : Int) + u1) < (102 : Int)) ∧ xR d 202 es_202 21 [xr (some 101), xi (u1 + (1 : Int))] [] (xwr I 111 ((21 : Int) + u1) (I 111 ((46 : Int) + u1))) L (gG D) 0 0 post)))))) : xR d 202 es_202 21 [xr (some 101), xi u1] [] I L (gG D) 0 0 post := xW_R (fun k => Nat.beq k 7 || Nat.beq k 21) 17 _ _ _ _ _ _ _ _ _ _ _ _ h
set_option maxRecDepth 8000 in
theorem b_202b {d : Nat} {I : XI} {L : XL} {D : GD} {post : XQ} {f : Int → Int}  {i0 : Int} (hd : 0 ≤ d) (h : (((-2147483648 ≤ i0 ∧ i0 ≤ 2147483647)) ∧ (((5 : Int) ≤ i0 → post none (xsc I 111 f) L (gG D)) ∧ (i0 < (5 : Int) → (((0 ≤ ((46 : Int) + i0) ∧ ((46 : Int) + i0) < (102 : Int))) ∧ (((0 ≤ ((21 : Int) + i0) ∧ ((21 : Int) + i0) < (102 : Int))) ∧ xR d 202 es_202 21 [xr (some 101), xi (i0 + (1 : Int))] [] (xsc I 111 (xup f ((21 : Int) + i0) (f ((46 : Int) + i0)))) L (gG D) 0 0 post)))))) : xR d 202 es_202 21 [xr (some 101), xi i0] [] (xsc I 111 f) L (gG D) 0 0 post := sg_202_21  (⟨⟨h.1, (by decide)⟩, ⟨fun q227 => (h.2.1 q227), fun q228 => ⟨(h.2.2 q228).1, ⟨(h.2.2 q228).2.1, (xR_memc (h.2.2 q228).2.2 (funext fun i => (xpt rfl (fun h111_ => (by simp only [xsc_ne _ _ h111_, xwr_ne _ _ _ h111_])))) rfl)⟩⟩⟩⟩)
def pbegA (a : Int → Int) (k : Int) : Int → Int := fun j => if j = 10 then 0 else if 11 ≤ j ∧ j < 11 + k then -1 else a j
def pbegB (a : Int → Int) (k : Int) : Int → Int := fun j => if j = 10 then 0 else if 11 ≤ j ∧ j < 21 then -1 else if 21 ≤ j ∧ j < 21 + k then a (25 + j) else a j
theorem c_202 {I : XI} {L : XL} {D : GD}    : xM 0 202 [xr (some 101)] I L (gG D) (0, 0) (xD none (xsc I 111 (pbeg (I 111))) L (gG D)) := by
  intro d hd
  refine w_202 (by omega) ?_
  have key : ∀ k : Nat, k ≤ 5 → xR d 202 es_202 21 [xr (some 101), xi (k : Int)] [] (xsc I 111 (pbegB (I 111) (k : Int))) L (gG D) 0 0 (xD none (xsc I 111 (pbeg (I 111))) L (gG D)) := by
    refine xfor ?_ ?_
    · refine b_202b (by omega) ?_
      repeat' first | (with_reducible intro _) | (with_reducible refine And.intro ?_ ?_)
      all_goals first | omega | assumption | skip
      refine xD_eq rfl ?_ rfl
      congr 1
    · intro k hk ih 
      refine b_202b (by omega) ?_
      repeat' first | (with_reducible intro _) | (with_reducible refine And.intro ?_ ?_)
      all_goals first | omega | assumption | skip
      have e : xup (pbegB (I 111) (k : Int)) (21 + (k : Int)) (pbegB (I 111) (k : Int) (46 + (k : Int))) = pbegB (I 111) ((k : Int) + 1) := by
        funext j
        unfold xup pbegB
        repeat' split
        all_goals first | rfl | omega | (congr 1; omega)
      rw [e]
      exact ih
  have key2 : ∀ k : Nat, k ≤ 10 → xR d 202 es_202 7 [xr (some 101), xi (k : Int)] [] (xsc I 111 (pbegA (I 111) (k : Int))) L (gG D) 0 0 (xD none (xsc I 111 (pbeg (I 111))) L (gG D)) := by
    refine xfor ?_ ?_
    · refine b_202a (by omega) ?_
      repeat' first | (with_reducible intro _) | (with_reducible refine And.intro ?_ ?_)
      all_goals first | omega | assumption | skip
      refine xR_memc (key 0 (Nat.zero_le _)) ?_ rfl
      congr 1
      funext j
      unfold pbegA pbegB
      repeat' split
      all_goals first | rfl | omega
    · intro k hk ih 
      refine b_202a (by omega) ?_
      repeat' first | (with_reducible intro _) | (with_reducible refine And.intro ?_ ?_)
      all_goals first | omega | assumption | skip
      have e : xup (pbegA (I 111) (k : Int)) (11 + (k : Int)) (-1) = pbegA (I 111) ((k : Int) + 1) := by
        funext j
        unfold xup pbegA
        repeat' split
        all_goals first | rfl | omega
      rw [e]
      exact ih
  refine xR_memc (key2 0 (Nat.zero_le _)) ?_ rfl
  congr 1
  funext j
  unfold xup pbegA
  repeat' split
  all_goals first | rfl | omega
set_option maxRecDepth 8000 in
theorem sg_216_0 {d : Nat} {I : XI} {L : XL} {D : GD} {post : XQ}  {u1 : Int} {u2 : Int} (h : ((0 ≤ ((11 : Int) + u1) ∧ ((11 : Int) + u1) < (102 : Int)) ∧ ((-2147483648 ≤ (I 111 ((11 : Int) + u1)) ∧ (I 111 ((11 : Int) + u1)) ≤ 2147483647) ∧ (((I 111 ((11 : Int) + u1)) < 0 → (((0 : Int) = 0 ∨ (0 : Int) = 1) ∧ post (some (xi (0 : Int))) I L (gG D))) ∧ (0 ≤ (I 111 ((11 : Int) + u1)) → ((0 ≤ ((11 : Int) + u2) ∧ ((11 : Int) + u2) < (102 : Int)) ∧ ((-2147483648 ≤ (I 111 ((11 : Int) + u2)) ∧ (I 111 ((11 : Int) + u2)) ≤ 2147483647) ∧ (((I 111 ((11 : Int) + u2)) < 0 → (((0 : Int) = 0 ∨ (0 : Int) = 1) ∧ post (some (xi (0 : Int))) I L (gG D))) ∧ (0 ≤ (I 111 ((11 : Int) + u2)) → ((0 ≤ ((11 : Int) + u1) ∧ ((11 : Int) + u1) < (102 : Int)) ∧ ((0 ≤ ((11 : Int) + u2) ∧ ((11 : Int) + u2) < (102 : Int)) ∧ (((-2147483648 ≤ (I 111 ((11 : Int) + u1)) ∧ (I 111 ((11 : Int) + u1)) ≤ 2147483647) ∧ (-2147483648 ≤ (I 111 ((11 : Int) + u2)) ∧ (I 111 ((11 : Int) + u2)) ≤ 2147483647)) ∧ (((I 111 ((11 : Int) + u1)) = (I 111 ((11 : Int) + u2)) → (((0 : Int) = 0 ∨ (0 : Int) = 1) ∧ post (some (xi (0 : Int))) I L (gG D))) ∧ (¬ (I 111 ((11 : Int) + u1)) = (I 111 ((11 : Int) + u2)) → (((1 : Int) = 0 ∨ (1 : Int) = 1) ∧ post (some (xi (1 : Int))) I L (gG D)))))))))))))))) : xR d 216 es_216 0 [xr (some 101), xi u1, xi u2] [] I L (gG D) 0 0 post := xW_R (fun k => false) 30 _ _ _ _ _ _ _ _ _ _ _ _ h
set_option maxRecDepth 8000 in
theorem w_216 {d : Nat} {I : XI} {L : XL} {D : GD} {post : XQ}   {a : Int} {b : Int} (hd : 0 ≤ d) (h : (((0 ≤ ((11 : Int) + a) ∧ ((11 : Int) + a) < (102 : Int))) ∧ (((-2147483648 ≤ (I 111 ((11 : Int) + a)) ∧ (I 111 ((11 : Int) + a)) ≤ 2147483647)) ∧ (((I 111 ((11 : Int) + a)) < 0 → post (some (xi (0 : Int))) I L (gG D)) ∧ (0 ≤ (I 111 ((11 : Int) + a)) → (((0 ≤ ((11 : Int) + b) ∧ ((11 : Int) + b) < (102 : Int))) ∧ (((-2147483648 ≤ (I 111 ((11 : Int) + b)) ∧ (I 111 ((11 : Int) + b)) ≤ 2147483647)) ∧ (((I 111 ((11 : Int) + b)) < 0 → post (some (xi (0 : Int))) I L (gG D)) ∧ (0 ≤ (I 111 ((11 : Int) + b)) → ((((I 111 ((11 : Int) + a)) = (I 111 ((11 : Int) + b)) → post (some (xi (0 : Int))) I L (gG D)) ∧ (¬ (I 111 ((11 : Int) + a)) = (I 111 ((11 : Int) + b)) → post (some (xi (1 : Int))) I L (gG D))))))))))))) : xR d 216 es_216 0 [xr (some 101), xi a, xi b] [] I L (gG D) 0 0 post := sg_216_0  (⟨h.1, ⟨h.2.1, ⟨fun q233 => ⟨(by decide), (h.2.2.1 q233)⟩, fun q234 => ⟨(h.2.2.2 q234).1, ⟨(h.2.2.2 q234).2.1, ⟨fun q231 => ⟨(by decide), ((h.2.2.2 q234).2.2.1 q231)⟩, fun q232 => ⟨h.1, ⟨(h.2.2.2 q234).1, ⟨⟨h.2.1, (h.2.2.2 q234).2.1⟩, ⟨fun q229 => ⟨(by decide), (((h.2.2.2 q234).2.2.2 q232).1 q229)⟩, fun q230 => ⟨(by decide), (((h.2.2.2 q234).2.2.2 q232).2 q230)⟩⟩⟩⟩⟩⟩⟩⟩⟩⟩⟩)
theorem c_216 {I : XI} {L : XL} {D : GD}   {a : Int} {b : Int} (h : (SO (I 111) ∧ (0 ≤ a ∧ a < 10) ∧ (0 ≤ b ∧ b < 10))) : xM 0 216 [xr (some 101), xi a, xi b] I L (gG D) (0, 0) (xD (some (xi (xb (0 ≤ I 111 (11 + a) ∧ 0 ≤ I 111 (11 + b) ∧ ¬ I 111 (11 + a) = I 111 (11 + b))))) I L (gG D)) := by
  intro d hd
  obtain ⟨hS, ha, hb⟩ := h
  have h1 := hS.w ha.1 ha.2
  have h2 := hS.w hb.1 hb.2
  have h4 := hS.g
  refine w_216 (by omega) ?_
  repeat' first | (with_reducible intro _) | (with_reducible refine And.intro ?_ ?_)
  all_goals first | omega | exact xD_in | assumption | (refine xD_eq ?_ rfl rfl; first | rfl | rw [xb_t (by omega)] | rw [xb_f (by omega)] | (rw [xb_t (by assumption)]) | (rw [xb_f (by assumption)]) | (rw [xb_t (by simp_all; done)]) | (rw [xb_f (by simp_all; done)]))
def pstir (a : Int → Int) (g : Int) : Int → Int := xup a (21 + g) (if 99 < a (21 + g) + a 2 then 99 else a (21 + g) + a 2)
set_option maxRecDepth 8000 in
theorem sg_218_0 {d : Nat} {I : XI} {L : XL} {D : GD} {post : XQ}  {u1 : Int} (h : ((0 ≤ ((21 : Int) + u1) ∧ ((21 : Int) + u1) < (102 : Int)) ∧ ((0 ≤ (2 : Int) ∧ (2 : Int) < (102 : Int)) ∧ (((-2147483648 ≤ ((I 111 ((21 : Int) + u1)) + (I 111 (2 : Int))) ∧ ((I 111 ((21 : Int) + u1)) + (I 111 (2 : Int))) ≤ 2147483647) ∧ (-2147483648 ≤ (99 : Int) ∧ (99 : Int) ≤ 2147483647)) ∧ ((((I 111 ((21 : Int) + u1)) + (I 111 (2 : Int))) ≤ (99 : Int) → ((0 ≤ ((21 : Int) + u1) ∧ ((21 : Int) + u1) < (102 : Int)) ∧ post none (xwr I 111 ((21 : Int) + u1) ((I 111 ((21 : Int) + u1)) + (I 111 (2 : Int)))) L (gG D))) ∧ ((99 : Int) < ((I 111 ((21 : Int) + u1)) + (I 111 (2 : Int))) → ((0 ≤ ((21 : Int) + u1) ∧ ((21 : Int) + u1) < (102 : Int)) ∧ post none (xwr I 111 ((21 : Int) + u1) (99 : Int)) L (gG D)))))))) : xR d 218 es_218 0 [xr (some 101), xi u1, xt 0] [] I L (gG D) 0 0 post := xW_R (fun k => false) 24 _ _ _ _ _ _ _ _ _ _ _ _ h
set_option maxRecDepth 8000 in
theorem w_218 {d : Nat} {I : XI} {L : XL} {D : GD} {post : XQ}   {g : Int} (hd : 0 ≤ d) (h : (((0 ≤ ((21 : Int) + g) ∧ ((21 : Int) + g) < (102 : Int))) ∧ (((-2147483648 ≤ ((I 111 ((21 : Int) + g)) + (I 111 (2 : Int))) ∧ ((I 111 ((21 : Int) + g)) + (I 111 (2 : Int))) ≤ 2147483647)) ∧ ((((I 111 ((21 : Int) + g)) + (I 111 (2 : Int))) ≤ (99 : Int) → post none (xsc I 111 (xup (I 111) ((21 : Int) + g) ((I 111 ((21 : Int) + g)) + (I 111 (2 : Int))))) L (gG D)) ∧ ((99 : Int) < ((I 111 ((21 : Int) + g)) + (I 111 (2 : Int))) → post none (xsc I 111 (xup (I 111) ((21 : Int) + g) (99 : Int))) L (gG D)))))) : xR d 218 es_218 0 [xr (some 101), xi g, xt 0] [] I L (gG D) 0 0 post := sg_218_0  (⟨h.1, ⟨(by decide), ⟨⟨h.2.1, (by decide)⟩, ⟨fun q235 => ⟨h.1, (h.2.2.1 q235)⟩, fun q236 => ⟨h.1, (h.2.2.2 q236)⟩⟩⟩⟩⟩)
theorem c_218 {I : XI} {L : XL} {D : GD}   {g : Int} (h : (SO (I 111) ∧ (0 ≤ g ∧ g < 5))) : xM 0 218 [xr (some 101), xi g] I L (gG D) (0, 0) (xD none (xsc I 111 (pstir (I 111) g)) L (gG D)) := by
  intro d hd
  have h1 := h.1.r h.2.1 h.2.2
  have h2 := h.1.stir
  have h3 := h.2
  refine w_218 (by omega) ?_
  repeat' first | (with_reducible intro _) | (with_reducible refine And.intro ?_ ?_)
  all_goals first | omega | skip
  all_goals (refine xD_eq rfl ?_ rfl; unfold pstir; first | rw [if_pos (by omega)] | rw [if_neg (by omega)])
