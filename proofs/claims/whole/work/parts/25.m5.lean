/-! rows copied -/
theorem xcp_zero (f g : Int → Int) (sp dp : Int) : xcp f g sp dp 0 = g := by
  funext j
  unfold xcp
  rw [if_neg (by omega)]
theorem xcp_step {f g : Int → Int} {sp dp k : Int} (h : 0 ≤ k) : xup (xcp f g sp dp k) (dp + k) (f (sp + k)) = xcp f g sp dp (k + 1) := by
  funext j
  unfold xup xcp
  by_cases h1 : j = dp + k
  · rw [if_pos h1, if_pos (by omega)]
    congr 1
    omega
  · rw [if_neg h1]
    by_cases h2 : dp ≤ j ∧ j < dp + k
    · rw [if_pos h2, if_pos (by omega)]
    · rw [if_neg h2, if_neg (by omega)]
theorem xcp_in {f g : Int → Int} {sp dp n j : Int} (h : dp ≤ j ∧ j < dp + n) : xcp f g sp dp n j = f (sp + (j - dp)) := if_pos h
theorem xcp_out {f g : Int → Int} {sp dp n j : Int} (h : ¬ (dp ≤ j ∧ j < dp + n)) : xcp f g sp dp n j = g j := if_neg h
set_option maxRecDepth 8000 in
theorem sg_220_0 {d : Nat} {I : XI} {L : XL} {D : GD} {post : XQ}   (h : xR d 220 es_220 2 [xr (some 101), xi (0 : Int)] [] I L (gG D) 0 0 post) : xR d 220 es_220 0 [xr (some 101), xt 0] [] I L (gG D) 0 0 post := xW_R (fun k => Nat.beq k 2) 2 _ _ _ _ _ _ _ _ _ _ _ _ h
set_option maxRecDepth 8000 in
theorem w_220 {d : Nat} {I : XI} {L : XL} {D : GD} {post : XQ}    (hd : 0 ≤ d) (h : xR d 220 es_220 2 [xr (some 101), xi (0 : Int)] [] I L (gG D) 0 0 post) : xR d 220 es_220 0 [xr (some 101), xt 0] [] I L (gG D) 0 0 post := sg_220_0  (h)
set_option maxRecDepth 8000 in
theorem sg_220_2 {d : Nat} {I : XI} {L : XL} {D : GD} {post : XQ}  {u1 : Int} (h : (((-2147483648 ≤ u1 ∧ u1 ≤ 2147483647) ∧ (-2147483648 ≤ (16 : Int) ∧ (16 : Int) ≤ 2147483647)) ∧ (((16 : Int) ≤ u1 → post none I L (gG D)) ∧ (u1 < (16 : Int) → ((0 ≤ ((10 : Int) + u1) ∧ ((10 : Int) + u1) < (102 : Int)) ∧ ((0 ≤ u1 ∧ u1 < (16 : Int)) ∧ xR d 220 es_220 2 [xr (some 101), xi (u1 + (1 : Int))] [] (xwr I 113 u1 (I 111 ((10 : Int) + u1))) L (gG D) 0 0 post)))))) : xR d 220 es_220 2 [xr (some 101), xi u1] [] I L (gG D) 0 0 post := xW_R (fun k => Nat.beq k 2) 15 _ _ _ _ _ _ _ _ _ _ _ _ h
set_option maxRecDepth 8000 in
theorem b_220 {d : Nat} {I : XI} {L : XL} {D : GD} {post : XQ} {f : Int → Int}  {k0 : Int} (hd : 0 ≤ d) (h : (((-2147483648 ≤ k0 ∧ k0 ≤ 2147483647)) ∧ (((16 : Int) ≤ k0 → post none (xsc I 113 f) L (gG D)) ∧ (k0 < (16 : Int) → (((0 ≤ ((10 : Int) + k0) ∧ ((10 : Int) + k0) < (102 : Int))) ∧ (((0 ≤ k0 ∧ k0 < (16 : Int))) ∧ xR d 220 es_220 2 [xr (some 101), xi (k0 + (1 : Int))] [] (xsc I 113 (xup f k0 (I 111 ((10 : Int) + k0)))) L (gG D) 0 0 post)))))) : xR d 220 es_220 2 [xr (some 101), xi k0] [] (xsc I 113 f) L (gG D) 0 0 post := sg_220_2  (⟨⟨h.1, (by decide)⟩, ⟨fun q144 => (h.2.1 q144), fun q145 => ⟨(h.2.2 q145).1, ⟨(h.2.2 q145).2.1, (xR_memc (h.2.2 q145).2.2 (funext fun i => (xpt rfl (fun h113_ => (by simp only [xsc_ne _ _ h113_, xwr_ne _ _ _ h113_])))) rfl)⟩⟩⟩⟩)
theorem c_220 {I : XI} {L : XL} {D : GD}    : xM 0 220 [xr (some 101)] I L (gG D) (0, 0) (xD none (xsc I 113 (xcp (I 111) (I 113) 10 0 16)) L (gG D)) := by
  intro d hd
  refine w_220 (by omega) ?_
  have key : ∀ k : Nat, k ≤ 16 → xR d 220 es_220 2 [xr (some 101), xi (k : Int)] [] (xsc I 113 (xcp (I 111) (I 113) 10 0 (k : Int))) L (gG D) 0 0 (xD none (xsc I 113 (xcp (I 111) (I 113) 10 0 16)) L (gG D)) := by
    refine xfor ?_ ?_
    · refine b_220 (by omega) ?_
      repeat' first | (with_reducible intro _) | (with_reducible refine And.intro ?_ ?_)
      all_goals first | omega | assumption | skip
      exact xD_in
    · intro k hk ih 
      refine b_220 (by omega) ?_
      repeat' first | (with_reducible intro _) | (with_reducible refine And.intro ?_ ?_)
      all_goals first | omega | assumption | skip
      have e := xcp_step (f := I 111) (g := I 113) (sp := 10) (dp := 0) (k := (k : Int)) (by omega)
      rw [Int.zero_add] at e
      rw [e]
      exact ih
  exact xR_memc (key 0 (Nat.zero_le _) ) (funext fun _ => (xpt (xcp_zero _ _ _ _).symm (fun _ => rfl))) rfl
set_option maxRecDepth 8000 in
theorem sg_221_0 {d : Nat} {I : XI} {L : XL} {D : GD} {post : XQ}   (h : xR d 221 es_221 2 [xr (some 101), xi (0 : Int)] [] I L (gG D) 0 0 post) : xR d 221 es_221 0 [xr (some 101), xt 0] [] I L (gG D) 0 0 post := xW_R (fun k => Nat.beq k 2) 2 _ _ _ _ _ _ _ _ _ _ _ _ h
set_option maxRecDepth 8000 in
theorem w_221 {d : Nat} {I : XI} {L : XL} {D : GD} {post : XQ}    (hd : 0 ≤ d) (h : xR d 221 es_221 2 [xr (some 101), xi (0 : Int)] [] I L (gG D) 0 0 post) : xR d 221 es_221 0 [xr (some 101), xt 0] [] I L (gG D) 0 0 post := sg_221_0  (h)
set_option maxRecDepth 8000 in
theorem sg_221_2 {d : Nat} {I : XI} {L : XL} {D : GD} {post : XQ}  {u1 : Int} (h : (((-2147483648 ≤ u1 ∧ u1 ≤ 2147483647) ∧ (-2147483648 ≤ (16 : Int) ∧ (16 : Int) ≤ 2147483647)) ∧ (((16 : Int) ≤ u1 → post none I L (gG D)) ∧ (u1 < (16 : Int) → ((0 ≤ u1 ∧ u1 < (16 : Int)) ∧ ((0 ≤ ((10 : Int) + u1) ∧ ((10 : Int) + u1) < (102 : Int)) ∧ xR d 221 es_221 2 [xr (some 101), xi (u1 + (1 : Int))] [] (xwr I 111 ((10 : Int) + u1) (I 113 u1)) L (gG D) 0 0 post)))))) : xR d 221 es_221 2 [xr (some 101), xi u1] [] I L (gG D) 0 0 post := xW_R (fun k => Nat.beq k 2) 15 _ _ _ _ _ _ _ _ _ _ _ _ h
set_option maxRecDepth 8000 in
theorem b_221 {d : Nat} {I : XI} {L : XL} {D : GD} {post : XQ} {f : Int → Int}  {k0 : Int} (hd : 0 ≤ d) (h : (((-2147483648 ≤ k0 ∧ k0 ≤ 2147483647)) ∧ (((16 : Int) ≤ k0 → post none (xsc I 111 f) L (gG D)) ∧ (k0 < (16 : Int) → (((0 ≤ k0 ∧ k0 < (16 : Int))) ∧ (((0 ≤ ((10 : Int) + k0) ∧ ((10 : Int) + k0) < (102 : Int))) ∧ xR d 221 es_221 2 [xr (some 101), xi (k0 + (1 : Int))] [] (xsc I 111 (xup f ((10 : Int) + k0) (I 113 k0))) L (gG D) 0 0 post)))))) : xR d 221 es_221 2 [xr (some 101), xi k0] [] (xsc I 111 f) L (gG D) 0 0 post := sg_221_2  (⟨⟨h.1, (by decide)⟩, ⟨fun q146 => (h.2.1 q146), fun q147 => ⟨(h.2.2 q147).1, ⟨(h.2.2 q147).2.1, (xR_memc (h.2.2 q147).2.2 (funext fun i => (xpt rfl (fun h111_ => (by simp only [xsc_ne _ _ h111_, xwr_ne _ _ _ h111_])))) rfl)⟩⟩⟩⟩)
theorem c_221 {I : XI} {L : XL} {D : GD}    : xM 0 221 [xr (some 101)] I L (gG D) (0, 0) (xD none (xsc I 111 (xcp (I 113) (I 111) 0 10 16)) L (gG D)) := by
  intro d hd
  refine w_221 (by omega) ?_
  have key : ∀ k : Nat, k ≤ 16 → xR d 221 es_221 2 [xr (some 101), xi (k : Int)] [] (xsc I 111 (xcp (I 113) (I 111) 0 10 (k : Int))) L (gG D) 0 0 (xD none (xsc I 111 (xcp (I 113) (I 111) 0 10 16)) L (gG D)) := by
    refine xfor ?_ ?_
    · refine b_221 (by omega) ?_
      repeat' first | (with_reducible intro _) | (with_reducible refine And.intro ?_ ?_)
      all_goals first | omega | assumption | skip
      exact xD_in
    · intro k hk ih 
      refine b_221 (by omega) ?_
      repeat' first | (with_reducible intro _) | (with_reducible refine And.intro ?_ ?_)
      all_goals first | omega | assumption | skip
      have e := xcp_step (f := I 113) (g := I 111) (sp := 0) (dp := 10) (k := (k : Int)) (by omega)
      rw [Int.zero_add] at e
      rw [e]
      exact ih
  exact xR_memc (key 0 (Nat.zero_le _) ) (funext fun _ => (xpt (xcp_zero _ _ _ _).symm (fun _ => rfl))) rfl
theorem lays_back {a b c : Int → Int} (h : ∀ j, (j < 10 ∨ 26 ≤ j) → b j = a j) : xcp (xcp a c 10 0 16) b 0 10 16 = a := by
  funext j
  by_cases hj : 10 ≤ j ∧ j < 26
  · rw [xcp_in (by omega), xcp_in (by omega)]
    congr 1
    omega
  · rw [xcp_out (by omega)]
    exact h j (by omega)
/-- acts kept, to be undone -/
def pkw (w a : Int → Int) (u : Int) : Int → Int := xcp a (if u = 20 then xcp w w 16 0 304 else w) 10 (16 * (if u = 20 then 19 else u)) 16
def pku (u : Int) : Int := if u = 20 then 20 else u + 1
set_option maxRecDepth 8000 in
theorem sg_211_0 {d : Nat} {I : XI} {L : XL} {D : GD} {post : XQ}   (h : (((-2147483648 ≤ (I 101 (25 : Int)) ∧ (I 101 (25 : Int)) ≤ 2147483647) ∧ (-2147483648 ≤ (20 : Int) ∧ (20 : Int) ≤ 2147483647)) ∧ ((¬ (I 101 (25 : Int)) = (20 : Int) → xR d 211 es_211 29 [xr (some 101), xi (0 : Int)] [] I L (gG D) 0 0 post) ∧ ((I 101 (25 : Int)) = (20 : Int) → xR d 211 es_211 6 [xr (some 101), xi (16 : Int)] [] I L (gG D) 0 0 post)))) : xR d 211 es_211 0 [xr (some 101), xt 0] [] I L (gG D) 0 0 post := xW_R (fun k => Nat.beq k 6 || Nat.beq k 29) 6 _ _ _ _ _ _ _ _ _ _ _ _ h
set_option maxRecDepth 8000 in
theorem w_211 {d : Nat} {I : XI} {L : XL} {D : GD} {post : XQ}    (hd : 0 ≤ d) (h : (((-2147483648 ≤ (I 101 (25 : Int)) ∧ (I 101 (25 : Int)) ≤ 2147483647)) ∧ ((¬ (I 101 (25 : Int)) = (20 : Int) → xR d 211 es_211 29 [xr (some 101), xi (0 : Int)] [] I L (gG D) 0 0 post) ∧ ((I 101 (25 : Int)) = (20 : Int) → xR d 211 es_211 6 [xr (some 101), xi (16 : Int)] [] I L (gG D) 0 0 post)))) : xR d 211 es_211 0 [xr (some 101), xt 0] [] I L (gG D) 0 0 post := sg_211_0  (⟨⟨h.1, (by decide)⟩, ⟨fun q148 => (h.2.1 q148), fun q149 => (h.2.2 q149)⟩⟩)
set_option maxRecDepth 8000 in
theorem sg_211_6 {d : Nat} {I : XI} {L : XL} {D : GD} {post : XQ}  {u1 : Int} (h : (((-2147483648 ≤ u1 ∧ u1 ≤ 2147483647) ∧ (-2147483648 ≤ (320 : Int) ∧ (320 : Int) ≤ 2147483647)) ∧ (((320 : Int) ≤ u1 → xR d 211 es_211 29 [xr (some 101), xi (0 : Int)] [] (xwr I 101 (25 : Int) ((I 101 (25 : Int)) - (1 : Int))) L (gG D) 0 0 post) ∧ (u1 < (320 : Int) → ((0 ≤ u1 ∧ u1 < (320 : Int)) ∧ ((0 ≤ (u1 - (16 : Int)) ∧ (u1 - (16 : Int)) < (320 : Int)) ∧ xR d 211 es_211 6 [xr (some 101), xi (u1 + (1 : Int))] [] (xwr I 112 (u1 - (16 : Int)) (I 112 u1)) L (gG D) 0 0 post)))))) : xR d 211 es_211 6 [xr (some 101), xi u1] [] I L (gG D) 0 0 post := xW_R (fun k => Nat.beq k 6 || Nat.beq k 29) 15 _ _ _ _ _ _ _ _ _ _ _ _ h
set_option maxRecDepth 8000 in
theorem b_211a {d : Nat} {I : XI} {L : XL} {D : GD} {post : XQ} {f : Int → Int}  {k0 : Int} (hd : 0 ≤ d) (h : (((-2147483648 ≤ k0 ∧ k0 ≤ 2147483647)) ∧ (((320 : Int) ≤ k0 → xR d 211 es_211 29 [xr (some 101), xi (0 : Int)] [] (xsc (xsc I 101 (xup (I 101) (25 : Int) ((I 101 (25 : Int)) - (1 : Int)))) 112 f) L (gG D) 0 0 post) ∧ (k0 < (320 : Int) → (((0 ≤ k0 ∧ k0 < (320 : Int))) ∧ (((0 ≤ (k0 - (16 : Int)) ∧ (k0 - (16 : Int)) < (320 : Int))) ∧ xR d 211 es_211 6 [xr (some 101), xi (k0 + (1 : Int))] [] (xsc I 112 (xup f (k0 - (16 : Int)) (f k0))) L (gG D) 0 0 post)))))) : xR d 211 es_211 6 [xr (some 101), xi k0] [] (xsc I 112 f) L (gG D) 0 0 post := sg_211_6  (⟨⟨h.1, (by decide)⟩, ⟨fun q150 => (xR_memc (h.2.1 q150) (funext fun i => (xpt rfl (fun h112_ => (xpt rfl (fun h101_ => (by simp only [xsc_ne _ _ h101_, xwr_ne _ _ _ h101_, xsc_ne _ _ h112_, xwr_ne _ _ _ h112_])))))) rfl), fun q151 => ⟨(h.2.2 q151).1, ⟨(h.2.2 q151).2.1, (xR_memc (h.2.2 q151).2.2 (funext fun i => (xpt rfl (fun h112_ => (by simp only [xsc_ne _ _ h112_, xwr_ne _ _ _ h112_])))) rfl)⟩⟩⟩⟩)
set_option maxRecDepth 8000 in
theorem sg_211_29 {d : Nat} {I : XI} {L : XL} {D : GD} {post : XQ}  {u1 : Int} (h : (((-2147483648 ≤ u1 ∧ u1 ≤ 2147483647) ∧ (-2147483648 ≤ (16 : Int) ∧ (16 : Int) ≤ 2147483647)) ∧ (((16 : Int) ≤ u1 → post none (xwr I 101 (25 : Int) ((I 101 (25 : Int)) + (1 : Int))) L (gG D)) ∧ (u1 < (16 : Int) → ((0 ≤ ((10 : Int) + u1) ∧ ((10 : Int) + u1) < (102 : Int)) ∧ ((0 ≤ (((16 : Int) * (I 101 (25 : Int))) + u1) ∧ (((16 : Int) * (I 101 (25 : Int))) + u1) < (320 : Int)) ∧ xR d 211 es_211 29 [xr (some 101), xi (u1 + (1 : Int))] [] (xwr I 112 (((16 : Int) * (I 101 (25 : Int))) + u1) (I 111 ((10 : Int) + u1))) L (gG D) 0 0 post)))))) : xR d 211 es_211 29 [xr (some 101), xi u1] [] I L (gG D) 0 0 post := xW_R (fun k => Nat.beq k 6 || Nat.beq k 29) 20 _ _ _ _ _ _ _ _ _ _ _ _ h
set_option maxRecDepth 8000 in
theorem b_211b {d : Nat} {I : XI} {L : XL} {D : GD} {post : XQ} {f : Int → Int} {un : Int}  {k0 : Int} (hd : 0 ≤ d) (h : (((-2147483648 ≤ k0 ∧ k0 ≤ 2147483647)) ∧ (((16 : Int) ≤ k0 → post none (xsc (xsc I 101 (xup (I 101) (25 : Int) (un + (1 : Int)))) 112 f) L (gG D)) ∧ (k0 < (16 : Int) → (((0 ≤ ((10 : Int) + k0) ∧ ((10 : Int) + k0) < (102 : Int))) ∧ (((0 ≤ (((16 : Int) * un) + k0) ∧ (((16 : Int) * un) + k0) < (320 : Int))) ∧ xR d 211 es_211 29 [xr (some 101), xi (k0 + (1 : Int))] [] (xsc (xsc I 101 (xup (I 101) (25 : Int) un)) 112 (xup f (((16 : Int) * un) + k0) (I 111 ((10 : Int) + k0)))) L (gG D) 0 0 post)))))) : xR d 211 es_211 29 [xr (some 101), xi k0] [] (xsc (xsc I 101 (xup (I 101) (25 : Int) un)) 112 f) L (gG D) 0 0 post := sg_211_29  (⟨⟨h.1, (by decide)⟩, ⟨fun q152 => (xpost (h.2.1 q152) (funext fun i => (xpt rfl (fun h112_ => (xpt (show (xup (xup (I 101) (25 : Int) un) (25 : Int) (un + (1 : Int))) = (xup (I 101) (25 : Int) (un + (1 : Int))) from by funext j; simp only [xup]; (repeat' split) <;> first | rfl | omega) (fun h101_ => (by simp only [xsc_ne _ _ h101_, xwr_ne _ _ _ h101_, xsc_ne _ _ h112_, xwr_ne _ _ _ h112_])))))) rfl), fun q153 => ⟨(h.2.2 q153).1, ⟨(h.2.2 q153).2.1, (xR_memc (h.2.2 q153).2.2 (funext fun i => (xpt rfl (fun h112_ => (xpt rfl (fun h101_ => (by simp only [xsc_ne _ _ h101_, xwr_ne _ _ _ h101_, xsc_ne _ _ h112_, xwr_ne _ _ _ h112_])))))) rfl)⟩⟩⟩⟩)
theorem c_211 {I : XI} {L : XL} {D : GD}    (h : (0 ≤ I 101 (25 : Int) ∧ I 101 (25 : Int) ≤ 20)) : xM 0 211 [xr (some 101)] I L (gG D) (0, 0) (xD none (xsc (xsc I 101 (xup (I 101) (25 : Int) (pku (I 101 (25 : Int))))) 112 (pkw (I 112) (I 111) (I 101 (25 : Int)))) L (gG D)) := by
  intro d hd
  refine w_211 (by omega) ?_
  have key : ∀ k : Nat, k ≤ 16 → ∀ (W : Int → Int) (un : Int), (0 ≤ un ∧ un ≤ 19 ∧ un + 1 = pku (I 101 25) ∧ pkw (I 112) (I 111) (I 101 25) = xcp (I 111) W 10 (16 * un) 16) → xR d 211 es_211 29 [xr (some 101), xi (k : Int)] [] (xsc (xsc I 101 (xup (I 101) (25 : Int) un)) 112 (xcp (I 111) W 10 (16 * un) (k : Int))) L (gG D) 0 0 (xD none (xsc (xsc I 101 (xup (I 101) 25 (pku (I 101 25)))) 112 (pkw (I 112) (I 111) (I 101 25))) L (gG D)) := by
    refine xfor ?_ ?_
    · intro W un hy
      refine b_211b (by omega) ?_
      repeat' first | (with_reducible intro _) | (with_reducible refine And.intro ?_ ?_)
      all_goals first | omega | assumption | skip
      rw [hy.2.2.1, hy.2.2.2]
      exact xD_in
    · intro k hk ih W un hy
      refine b_211b (by omega) ?_
      repeat' first | (with_reducible intro _) | (with_reducible refine And.intro ?_ ?_)
      all_goals first | omega | assumption | skip
      have e := xcp_step (f := I 111) (g := W) (sp := 10) (dp := 16 * un) (k := (k : Int)) (by omega)
      rw [e]
      exact ih _ _ hy
  have key2 : ∀ k : Nat, k ≤ 304 → I 101 25 = 20 → xR d 211 es_211 6 [xr (some 101), xi (16 + (k : Int))] [] (xsc I 112 (xcp (I 112) (I 112) 16 0 (k : Int))) L (gG D) 0 0 (xD none (xsc (xsc I 101 (xup (I 101) 25 (pku (I 101 25)))) 112 (pkw (I 112) (I 111) (I 101 25))) L (gG D)) := by
    refine xfor ?_ ?_
    · intro h20
      refine b_211a (by omega) ?_
      repeat' first | (with_reducible intro _) | (with_reducible refine And.intro ?_ ?_)
      all_goals first | omega | assumption | skip
      have := key 0 (Nat.zero_le _) (xcp (I 112) (I 112) 16 0 304) 19 ⟨by decide, by decide, by unfold pku; rw [if_pos h20]; rfl, by unfold pkw; rw [if_pos h20, if_pos h20]⟩
      refine xR_memc this ?_ rfl
      rw [h20]
      (funext i; by_cases h101 : i = 101; (subst h101; first | rfl | exact (xcp_zero _ _ _ _).symm | exact (xup_self _ _).symm | exact (xup_self2 _ _ _).symm | exact (xup_self3 _ _ _ _).symm | exact xup_self _ _); by_cases h112 : i = 112; (subst h112; first | rfl | exact (xcp_zero _ _ _ _).symm | exact (xup_self _ _).symm | exact (xup_self2 _ _ _).symm | exact (xup_self3 _ _ _ _).symm | exact xup_self _ _); first | rfl | simp only [xsc_ne _ _ h101, xsc_ne _ _ h112])
    · intro k hk ih h20
      refine b_211a (by omega) ?_
      repeat' first | (with_reducible intro _) | (with_reducible refine And.intro ?_ ?_)
      all_goals first | omega | assumption | skip
      have e := xcp_step (f := I 112) (g := I 112) (sp := 16) (dp := 0) (k := (k : Int)) (by omega)
      rw [show xcp (I 112) (I 112) 16 0 (k : Int) (16 + (k : Int)) = I 112 (16 + (k : Int)) from xcp_out (by omega), show 16 + (k : Int) - 16 = 0 + (k : Int) by omega, e]
      have := ih h20
      rw [show ((k + 1 : Nat) : Int) = (k : Int) + 1 by omega, show 16 + ((k : Int) + 1) = 16 + (k : Int) + 1 by omega] at this
      exact this
  repeat' first | (with_reducible intro _) | (with_reducible refine And.intro ?_ ?_)
  all_goals first | omega | skip
  · exact xR_memc (key 0 (Nat.zero_le _) (I 112) (I 101 25) ⟨by omega, by omega, by unfold pku; rw [if_neg (by assumption)], by unfold pkw; rw [if_neg (by assumption), if_neg (by assumption)]⟩) (funext fun _ => (xpt (xcp_zero _ _ _ _).symm (fun _ => (xpt (xup_self _ _).symm (fun _ => rfl))))) rfl
  · exact xR_memc (key2 0 (Nat.zero_le _) (by assumption)) (funext fun _ => (xpt (xcp_zero _ _ _ _).symm (fun _ => rfl))) rfl
set_option maxRecDepth 8000 in
theorem sg_212_0 {d : Nat} {I : XI} {L : XL} {D : GD} {post : XQ}   (h : ((-2147483648 ≤ (I 101 (25 : Int)) ∧ (I 101 (25 : Int)) ≤ 2147483647) ∧ ((¬ (I 101 (25 : Int)) = 0 → xR d 212 es_212 13 [xr (some 101), xi (0 : Int)] [] (xwr I 101 (25 : Int) ((I 101 (25 : Int)) - (1 : Int))) L (gG D) 0 0 post) ∧ ((I 101 (25 : Int)) = 0 → post (some (xi (-1 : Int))) I L (gG D))))) : xR d 212 es_212 0 [xr (some 101), xt 0] [] I L (gG D) 0 0 post := xW_R (fun k => Nat.beq k 13) 11 _ _ _ _ _ _ _ _ _ _ _ _ h
set_option maxRecDepth 8000 in
theorem w_212 {d : Nat} {I : XI} {L : XL} {D : GD} {post : XQ}    (hd : 0 ≤ d) (h : (((-2147483648 ≤ (I 101 (25 : Int)) ∧ (I 101 (25 : Int)) ≤ 2147483647)) ∧ ((¬ (I 101 (25 : Int)) = 0 → xR d 212 es_212 13 [xr (some 101), xi (0 : Int)] [] (xsc I 101 (xup (I 101) (25 : Int) ((I 101 (25 : Int)) - (1 : Int)))) L (gG D) 0 0 post) ∧ ((I 101 (25 : Int)) = 0 → post (some (xi (-1 : Int))) I L (gG D))))) : xR d 212 es_212 0 [xr (some 101), xt 0] [] I L (gG D) 0 0 post := sg_212_0  (⟨h.1, ⟨fun q154 => (h.2.1 q154), fun q155 => (h.2.2 q155)⟩⟩)
set_option maxRecDepth 8000 in
theorem sg_212_13 {d : Nat} {I : XI} {L : XL} {D : GD} {post : XQ}  {u1 : Int} (h : (((-2147483648 ≤ u1 ∧ u1 ≤ 2147483647) ∧ (-2147483648 ≤ (16 : Int) ∧ (16 : Int) ≤ 2147483647)) ∧ (((16 : Int) ≤ u1 → post (some (xi (I 101 (25 : Int)))) I L (gG D)) ∧ (u1 < (16 : Int) → ((0 ≤ (((16 : Int) * (I 101 (25 : Int))) + u1) ∧ (((16 : Int) * (I 101 (25 : Int))) + u1) < (320 : Int)) ∧ ((0 ≤ ((10 : Int) + u1) ∧ ((10 : Int) + u1) < (102 : Int)) ∧ xR d 212 es_212 13 [xr (some 101), xi (u1 + (1 : Int))] [] (xwr I 111 ((10 : Int) + u1) (I 112 (((16 : Int) * (I 101 (25 : Int))) + u1))) L (gG D) 0 0 post)))))) : xR d 212 es_212 13 [xr (some 101), xi u1] [] I L (gG D) 0 0 post := xW_R (fun k => Nat.beq k 13) 20 _ _ _ _ _ _ _ _ _ _ _ _ h
set_option maxRecDepth 8000 in
theorem b_212 {d : Nat} {I : XI} {L : XL} {D : GD} {post : XQ} {f : Int → Int} {un : Int}  {k0 : Int} (hd : 0 ≤ d) (h : (((-2147483648 ≤ k0 ∧ k0 ≤ 2147483647)) ∧ (((16 : Int) ≤ k0 → post (some (xi un)) (xsc (xsc I 101 (xup (I 101) (25 : Int) un)) 111 f) L (gG D)) ∧ (k0 < (16 : Int) → (((0 ≤ (((16 : Int) * un) + k0) ∧ (((16 : Int) * un) + k0) < (320 : Int))) ∧ (((0 ≤ ((10 : Int) + k0) ∧ ((10 : Int) + k0) < (102 : Int))) ∧ xR d 212 es_212 13 [xr (some 101), xi (k0 + (1 : Int))] [] (xsc (xsc I 101 (xup (I 101) (25 : Int) un)) 111 (xup f ((10 : Int) + k0) (I 112 (((16 : Int) * un) + k0)))) L (gG D) 0 0 post)))))) : xR d 212 es_212 13 [xr (some 101), xi k0] [] (xsc (xsc I 101 (xup (I 101) (25 : Int) un)) 111 f) L (gG D) 0 0 post := sg_212_13  (⟨⟨h.1, (by decide)⟩, ⟨fun q156 => (h.2.1 q156), fun q157 => ⟨(h.2.2 q157).1, ⟨(h.2.2 q157).2.1, (xR_memc (h.2.2 q157).2.2 (funext fun i => (xpt rfl (fun h111_ => (xpt rfl (fun h101_ => (by simp only [xsc_ne _ _ h101_, xwr_ne _ _ _ h101_, xsc_ne _ _ h111_, xwr_ne _ _ _ h111_])))))) rfl)⟩⟩⟩⟩)
theorem c_212 {I : XI} {L : XL} {D : GD}    (h : (0 ≤ I 101 (25 : Int) ∧ I 101 (25 : Int) ≤ 20)) : xM 0 212 [xr (some 101)] I L (gG D) (0, 0) (xD (some (xi (if I 101 (25 : Int) = 0 then -1 else I 101 (25 : Int) - 1))) (xsc (xsc I 101 (xup (I 101) (25 : Int) (if I 101 (25 : Int) = 0 then 0 else I 101 (25 : Int) - 1))) 111 (if I 101 (25 : Int) = 0 then (I 111) else xcp (I 112) (I 111) (16 * (I 101 (25 : Int) - 1)) 10 16)) L (gG D)) := by
  intro d hd
  refine w_212 (by omega) ?_
  by_cases h0 : I 101 25 = 0
  · rw [if_pos h0, if_pos h0, if_pos h0]
    repeat' first | (with_reducible intro _) | (with_reducible refine And.intro ?_ ?_)
    all_goals first | omega | skip
    refine xD_eq rfl ?_ rfl
    rw [show (0 : Int) = I 101 25 from h0.symm]
    exact (funext fun _ => (xpt rfl (fun _ => (xpt (xup_self _ _).symm (fun _ => rfl)))))
  · rw [if_neg h0, if_neg h0, if_neg h0]
    have key : ∀ k : Nat, k ≤ 16 → xR d 212 es_212 13 [xr (some 101), xi (k : Int)] [] (xsc (xsc I 101 (xup (I 101) (25 : Int) (I 101 25 - 1))) 111 (xcp (I 112) (I 111) (16 * (I 101 25 - 1)) 10 (k : Int))) L (gG D) 0 0 (xD (some (xi (I 101 25 - 1))) (xsc (xsc I 101 (xup (I 101) 25 (I 101 25 - 1))) 111 (xcp (I 112) (I 111) (16 * (I 101 25 - 1)) 10 16)) L (gG D)) := by
      refine xfor ?_ ?_
      · refine b_212 (by omega) ?_
        repeat' first | (with_reducible intro _) | (with_reducible refine And.intro ?_ ?_)
        all_goals first | omega | assumption | skip
        exact xD_in
      · intro k hk ih 
        refine b_212 (by omega) ?_
        repeat' first | (with_reducible intro _) | (with_reducible refine And.intro ?_ ?_)
        all_goals first | omega | assumption | skip
        rw [xcp_step (by omega)]
        exact ih
    repeat' first | (with_reducible intro _) | (with_reducible refine And.intro ?_ ?_)
    all_goals first | omega | skip
    exact xR_memc (key 0 (Nat.zero_le _)) (funext fun _ => (xpt (xcp_zero _ _ _ _).symm (fun _ => rfl))) rfl

