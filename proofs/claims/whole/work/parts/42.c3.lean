def xfl (g : Int → Int) (v n : Int) : Int → Int := fun j => if 0 ≤ j ∧ j < n then v else g j
theorem xfl_step {g : Int → Int} {v k : Int} (h : 0 ≤ k) : xup (xfl g v k) k v = xfl g v (k + 1) := by
  funext j
  unfold xup xfl
  (repeat' split) <;> first | rfl | omega
theorem xfl_zero {g : Int → Int} {v : Int} : xfl g v 0 = g := by
  funext j
  unfold xfl
  rw [if_neg (by omega)]
set_option maxRecDepth 8000 in
theorem sg_262_0_17 {d : Nat} {I : XI} {L : XL} {D : GD} {post : XQ}  {u1 : Int} (h : xR d 262 es_262 5 [xr (some 17), xi u1, xi (0 : Int), xi (10 : Int)] [] I L (gG D) 0 0 post) : xR d 262 es_262 0 [xr (some 17), xi u1, xt 0, xt 0] [] I L (gG D) 0 0 post := xW_R (fun k => Nat.beq k 5) 5 _ _ _ _ _ _ _ _ _ _ _ _ h
set_option maxRecDepth 8000 in
theorem w_262_17 {d : Nat} {I : XI} {L : XL} {D : GD} {post : XQ}   {v : Int} (hd : 0 ≤ d) (h : xR d 262 es_262 5 [xr (some 17), xi v, xi (0 : Int), xi (10 : Int)] [] I L (gG D) 0 0 post) : xR d 262 es_262 0 [xr (some 17), xi v, xt 0, xt 0] [] I L (gG D) 0 0 post := sg_262_0_17  (h)
set_option maxRecDepth 8000 in
theorem sg_262_5_17 {d : Nat} {I : XI} {L : XL} {D : GD} {post : XQ}  {u1 : Int} {u2 : Int} {u3 : Int} (h : (((-2147483648 ≤ u2 ∧ u2 ≤ 2147483647) ∧ (-2147483648 ≤ u3 ∧ u3 ≤ 2147483647)) ∧ ((u3 ≤ u2 → post none I L (gG D)) ∧ (u2 < u3 → ((0 ≤ u2 ∧ u2 < (10 : Int)) ∧ xR d 262 es_262 5 [xr (some 17), xi u1, xi (u2 + (1 : Int)), xi u3] [] (xwr I 17 u2 u1) L (gG D) 0 0 post))))) : xR d 262 es_262 5 [xr (some 17), xi u1, xi u2, xi u3] [] I L (gG D) 0 0 post := xW_R (fun k => Nat.beq k 5) 9 _ _ _ _ _ _ _ _ _ _ _ _ h
set_option maxRecDepth 8000 in
theorem b_262_17 {d : Nat} {I : XI} {L : XL} {D : GD} {post : XQ} {f : Int → Int}  {v : Int} {i : Int} {n : Int} (hd : 0 ≤ d) (h : (((-2147483648 ≤ i ∧ i ≤ 2147483647) ∧ (-2147483648 ≤ n ∧ n ≤ 2147483647)) ∧ ((n ≤ i → post none (xsc I 17 f) L (gG D)) ∧ (i < n → (((0 ≤ i ∧ i < (10 : Int))) ∧ xR d 262 es_262 5 [xr (some 17), xi v, xi (i + (1 : Int)), xi n] [] (xsc I 17 (xup f i v)) L (gG D) 0 0 post))))) : xR d 262 es_262 5 [xr (some 17), xi v, xi i, xi n] [] (xsc I 17 f) L (gG D) 0 0 post := sg_262_5_17  (⟨⟨h.1.1, h.1.2⟩, ⟨fun q716 => (h.2.1 q716), fun q717 => ⟨(h.2.2 q717).1, (xR_memc (h.2.2 q717).2 (funext fun i => (xpt rfl (fun h17_ => (by simp only [xsc_ne _ _ h17_, xwr_ne _ _ _ h17_])))) rfl)⟩⟩⟩)
theorem c_262_17 {I : XI} {L : XL} {D : GD}   {v : Int} : xM 0 262 [xr (some 17), xi v] I L (gG D) (0, 0) (xD none (xsc I 17 (xfl (I 17) v 10)) L (gG D)) := by
  intro d hd
  refine w_262_17 (by omega) ?_
  have key : ∀ k : Nat, k ≤ 10 → xR d 262 es_262 5 [xr (some 17), xi v, xi (k : Int), xi 10] [] (xsc I 17 (xfl (I 17) v (k : Int))) L (gG D) 0 0 (xD none (xsc I 17 (xfl (I 17) v 10)) L (gG D)) := by
    refine xfor ?_ ?_
    · refine b_262_17 (by omega) ?_
      repeat' first | (with_reducible intro _) | (with_reducible refine And.intro ?_ ?_)
      all_goals first | omega | assumption | skip
      exact xD_in
    · intro k hk ih 
      refine b_262_17 (by omega) ?_
      repeat' first | (with_reducible intro _) | (with_reducible refine And.intro ?_ ?_)
      all_goals first | omega | assumption | skip
      rw [xfl_step (by omega)]
      exact ih
  exact xR_memc (key 0 (Nat.zero_le _)) (by (funext i; by_cases h17 : i = 17; (subst h17; first | rfl | exact (xcp_zero _ _ _ _).symm | exact (xup_self _ _).symm | exact (xup_self2 _ _ _).symm | exact (xup_self3 _ _ _ _).symm | exact xup_self _ _ | exact xfl_zero.symm); first | rfl | simp only [xsc_ne _ _ h17])) rfl
set_option maxRecDepth 8000 in
theorem sg_262_0_99 {d : Nat} {I : XI} {L : XL} {D : GD} {post : XQ}  {u1 : Int} (h : xR d 262 es_262 5 [xr (some 99), xi u1, xi (0 : Int), xi (10 : Int)] [] I L (gG D) 0 0 post) : xR d 262 es_262 0 [xr (some 99), xi u1, xt 0, xt 0] [] I L (gG D) 0 0 post := xW_R (fun k => Nat.beq k 5) 5 _ _ _ _ _ _ _ _ _ _ _ _ h
set_option maxRecDepth 8000 in
theorem w_262_99 {d : Nat} {I : XI} {L : XL} {D : GD} {post : XQ}   {v : Int} (hd : 0 ≤ d) (h : xR d 262 es_262 5 [xr (some 99), xi v, xi (0 : Int), xi (10 : Int)] [] I L (gG D) 0 0 post) : xR d 262 es_262 0 [xr (some 99), xi v, xt 0, xt 0] [] I L (gG D) 0 0 post := sg_262_0_99  (h)
set_option maxRecDepth 8000 in
theorem sg_262_5_99 {d : Nat} {I : XI} {L : XL} {D : GD} {post : XQ}  {u1 : Int} {u2 : Int} {u3 : Int} (h : (((-2147483648 ≤ u2 ∧ u2 ≤ 2147483647) ∧ (-2147483648 ≤ u3 ∧ u3 ≤ 2147483647)) ∧ ((u3 ≤ u2 → post none I L (gG D)) ∧ (u2 < u3 → ((0 ≤ u2 ∧ u2 < (10 : Int)) ∧ xR d 262 es_262 5 [xr (some 99), xi u1, xi (u2 + (1 : Int)), xi u3] [] (xwr I 99 u2 u1) L (gG D) 0 0 post))))) : xR d 262 es_262 5 [xr (some 99), xi u1, xi u2, xi u3] [] I L (gG D) 0 0 post := xW_R (fun k => Nat.beq k 5) 9 _ _ _ _ _ _ _ _ _ _ _ _ h
set_option maxRecDepth 8000 in
theorem b_262_99 {d : Nat} {I : XI} {L : XL} {D : GD} {post : XQ} {f : Int → Int}  {v : Int} {i : Int} {n : Int} (hd : 0 ≤ d) (h : (((-2147483648 ≤ i ∧ i ≤ 2147483647) ∧ (-2147483648 ≤ n ∧ n ≤ 2147483647)) ∧ ((n ≤ i → post none (xsc I 99 f) L (gG D)) ∧ (i < n → (((0 ≤ i ∧ i < (10 : Int))) ∧ xR d 262 es_262 5 [xr (some 99), xi v, xi (i + (1 : Int)), xi n] [] (xsc I 99 (xup f i v)) L (gG D) 0 0 post))))) : xR d 262 es_262 5 [xr (some 99), xi v, xi i, xi n] [] (xsc I 99 f) L (gG D) 0 0 post := sg_262_5_99  (⟨⟨h.1.1, h.1.2⟩, ⟨fun q718 => (h.2.1 q718), fun q719 => ⟨(h.2.2 q719).1, (xR_memc (h.2.2 q719).2 (funext fun i => (xpt rfl (fun h99_ => (by simp only [xsc_ne _ _ h99_, xwr_ne _ _ _ h99_])))) rfl)⟩⟩⟩)
theorem c_262_99 {I : XI} {L : XL} {D : GD}   {v : Int} : xM 0 262 [xr (some 99), xi v] I L (gG D) (0, 0) (xD none (xsc I 99 (xfl (I 99) v 10)) L (gG D)) := by
  intro d hd
  refine w_262_99 (by omega) ?_
  have key : ∀ k : Nat, k ≤ 10 → xR d 262 es_262 5 [xr (some 99), xi v, xi (k : Int), xi 10] [] (xsc I 99 (xfl (I 99) v (k : Int))) L (gG D) 0 0 (xD none (xsc I 99 (xfl (I 99) v 10)) L (gG D)) := by
    refine xfor ?_ ?_
    · refine b_262_99 (by omega) ?_
      repeat' first | (with_reducible intro _) | (with_reducible refine And.intro ?_ ?_)
      all_goals first | omega | assumption | skip
      exact xD_in
    · intro k hk ih 
      refine b_262_99 (by omega) ?_
      repeat' first | (with_reducible intro _) | (with_reducible refine And.intro ?_ ?_)
      all_goals first | omega | assumption | skip
      rw [xfl_step (by omega)]
      exact ih
  exact xR_memc (key 0 (Nat.zero_le _)) (by (funext i; by_cases h99 : i = 99; (subst h99; first | rfl | exact (xcp_zero _ _ _ _).symm | exact (xup_self _ _).symm | exact (xup_self2 _ _ _).symm | exact (xup_self3 _ _ _ _).symm | exact xup_self _ _ | exact xfl_zero.symm); first | rfl | simp only [xsc_ne _ _ h99])) rfl
set_option maxRecDepth 8000 in
theorem sg_262_0_24 {d : Nat} {I : XI} {L : XL} {D : GD} {post : XQ}  {u1 : Int} (h : xR d 262 es_262 5 [xr (some 24), xi u1, xi (0 : Int), xi (25 : Int)] [] I L (gG D) 0 0 post) : xR d 262 es_262 0 [xr (some 24), xi u1, xt 0, xt 0] [] I L (gG D) 0 0 post := xW_R (fun k => Nat.beq k 5) 5 _ _ _ _ _ _ _ _ _ _ _ _ h
set_option maxRecDepth 8000 in
theorem w_262_24 {d : Nat} {I : XI} {L : XL} {D : GD} {post : XQ}   {v : Int} (hd : 0 ≤ d) (h : xR d 262 es_262 5 [xr (some 24), xi v, xi (0 : Int), xi (25 : Int)] [] I L (gG D) 0 0 post) : xR d 262 es_262 0 [xr (some 24), xi v, xt 0, xt 0] [] I L (gG D) 0 0 post := sg_262_0_24  (h)
set_option maxRecDepth 8000 in
theorem sg_262_5_24 {d : Nat} {I : XI} {L : XL} {D : GD} {post : XQ}  {u1 : Int} {u2 : Int} {u3 : Int} (h : (((-2147483648 ≤ u2 ∧ u2 ≤ 2147483647) ∧ (-2147483648 ≤ u3 ∧ u3 ≤ 2147483647)) ∧ ((u3 ≤ u2 → post none I L (gG D)) ∧ (u2 < u3 → ((0 ≤ u2 ∧ u2 < (25 : Int)) ∧ xR d 262 es_262 5 [xr (some 24), xi u1, xi (u2 + (1 : Int)), xi u3] [] (xwr I 24 u2 u1) L (gG D) 0 0 post))))) : xR d 262 es_262 5 [xr (some 24), xi u1, xi u2, xi u3] [] I L (gG D) 0 0 post := xW_R (fun k => Nat.beq k 5) 9 _ _ _ _ _ _ _ _ _ _ _ _ h
set_option maxRecDepth 8000 in
theorem b_262_24 {d : Nat} {I : XI} {L : XL} {D : GD} {post : XQ} {f : Int → Int}  {v : Int} {i : Int} {n : Int} (hd : 0 ≤ d) (h : (((-2147483648 ≤ i ∧ i ≤ 2147483647) ∧ (-2147483648 ≤ n ∧ n ≤ 2147483647)) ∧ ((n ≤ i → post none (xsc I 24 f) L (gG D)) ∧ (i < n → (((0 ≤ i ∧ i < (25 : Int))) ∧ xR d 262 es_262 5 [xr (some 24), xi v, xi (i + (1 : Int)), xi n] [] (xsc I 24 (xup f i v)) L (gG D) 0 0 post))))) : xR d 262 es_262 5 [xr (some 24), xi v, xi i, xi n] [] (xsc I 24 f) L (gG D) 0 0 post := sg_262_5_24  (⟨⟨h.1.1, h.1.2⟩, ⟨fun q720 => (h.2.1 q720), fun q721 => ⟨(h.2.2 q721).1, (xR_memc (h.2.2 q721).2 (funext fun i => (xpt rfl (fun h24_ => (by simp only [xsc_ne _ _ h24_, xwr_ne _ _ _ h24_])))) rfl)⟩⟩⟩)
theorem c_262_24 {I : XI} {L : XL} {D : GD}   {v : Int} : xM 0 262 [xr (some 24), xi v] I L (gG D) (0, 0) (xD none (xsc I 24 (xfl (I 24) v 25)) L (gG D)) := by
  intro d hd
  refine w_262_24 (by omega) ?_
  have key : ∀ k : Nat, k ≤ 25 → xR d 262 es_262 5 [xr (some 24), xi v, xi (k : Int), xi 25] [] (xsc I 24 (xfl (I 24) v (k : Int))) L (gG D) 0 0 (xD none (xsc I 24 (xfl (I 24) v 25)) L (gG D)) := by
    refine xfor ?_ ?_
    · refine b_262_24 (by omega) ?_
      repeat' first | (with_reducible intro _) | (with_reducible refine And.intro ?_ ?_)
      all_goals first | omega | assumption | skip
      exact xD_in
    · intro k hk ih 
      refine b_262_24 (by omega) ?_
      repeat' first | (with_reducible intro _) | (with_reducible refine And.intro ?_ ?_)
      all_goals first | omega | assumption | skip
      rw [xfl_step (by omega)]
      exact ih
  exact xR_memc (key 0 (Nat.zero_le _)) (by (funext i; by_cases h24 : i = 24; (subst h24; first | rfl | exact (xcp_zero _ _ _ _).symm | exact (xup_self _ _).symm | exact (xup_self2 _ _ _).symm | exact (xup_self3 _ _ _ _).symm | exact xup_self _ _ | exact xfl_zero.symm); first | rfl | simp only [xsc_ne _ _ h24])) rfl
set_option maxRecDepth 8000 in
theorem sg_262_0_95 {d : Nat} {I : XI} {L : XL} {D : GD} {post : XQ}  {u1 : Int} (h : xR d 262 es_262 5 [xr (some 95), xi u1, xi (0 : Int), xi (5 : Int)] [] I L (gG D) 0 0 post) : xR d 262 es_262 0 [xr (some 95), xi u1, xt 0, xt 0] [] I L (gG D) 0 0 post := xW_R (fun k => Nat.beq k 5) 5 _ _ _ _ _ _ _ _ _ _ _ _ h
set_option maxRecDepth 8000 in
theorem w_262_95 {d : Nat} {I : XI} {L : XL} {D : GD} {post : XQ}   {v : Int} (hd : 0 ≤ d) (h : xR d 262 es_262 5 [xr (some 95), xi v, xi (0 : Int), xi (5 : Int)] [] I L (gG D) 0 0 post) : xR d 262 es_262 0 [xr (some 95), xi v, xt 0, xt 0] [] I L (gG D) 0 0 post := sg_262_0_95  (h)
set_option maxRecDepth 8000 in
theorem sg_262_5_95 {d : Nat} {I : XI} {L : XL} {D : GD} {post : XQ}  {u1 : Int} {u2 : Int} {u3 : Int} (h : (((-2147483648 ≤ u2 ∧ u2 ≤ 2147483647) ∧ (-2147483648 ≤ u3 ∧ u3 ≤ 2147483647)) ∧ ((u3 ≤ u2 → post none I L (gG D)) ∧ (u2 < u3 → ((0 ≤ u2 ∧ u2 < (5 : Int)) ∧ xR d 262 es_262 5 [xr (some 95), xi u1, xi (u2 + (1 : Int)), xi u3] [] (xwr I 95 u2 u1) L (gG D) 0 0 post))))) : xR d 262 es_262 5 [xr (some 95), xi u1, xi u2, xi u3] [] I L (gG D) 0 0 post := xW_R (fun k => Nat.beq k 5) 9 _ _ _ _ _ _ _ _ _ _ _ _ h
set_option maxRecDepth 8000 in
theorem b_262_95 {d : Nat} {I : XI} {L : XL} {D : GD} {post : XQ} {f : Int → Int}  {v : Int} {i : Int} {n : Int} (hd : 0 ≤ d) (h : (((-2147483648 ≤ i ∧ i ≤ 2147483647) ∧ (-2147483648 ≤ n ∧ n ≤ 2147483647)) ∧ ((n ≤ i → post none (xsc I 95 f) L (gG D)) ∧ (i < n → (((0 ≤ i ∧ i < (5 : Int))) ∧ xR d 262 es_262 5 [xr (some 95), xi v, xi (i + (1 : Int)), xi n] [] (xsc I 95 (xup f i v)) L (gG D) 0 0 post))))) : xR d 262 es_262 5 [xr (some 95), xi v, xi i, xi n] [] (xsc I 95 f) L (gG D) 0 0 post := sg_262_5_95  (⟨⟨h.1.1, h.1.2⟩, ⟨fun q722 => (h.2.1 q722), fun q723 => ⟨(h.2.2 q723).1, (xR_memc (h.2.2 q723).2 (funext fun i => (xpt rfl (fun h95_ => (by simp only [xsc_ne _ _ h95_, xwr_ne _ _ _ h95_])))) rfl)⟩⟩⟩)
theorem c_262_95 {I : XI} {L : XL} {D : GD}   {v : Int} : xM 0 262 [xr (some 95), xi v] I L (gG D) (0, 0) (xD none (xsc I 95 (xfl (I 95) v 5)) L (gG D)) := by
  intro d hd
  refine w_262_95 (by omega) ?_
  have key : ∀ k : Nat, k ≤ 5 → xR d 262 es_262 5 [xr (some 95), xi v, xi (k : Int), xi 5] [] (xsc I 95 (xfl (I 95) v (k : Int))) L (gG D) 0 0 (xD none (xsc I 95 (xfl (I 95) v 5)) L (gG D)) := by
    refine xfor ?_ ?_
    · refine b_262_95 (by omega) ?_
      repeat' first | (with_reducible intro _) | (with_reducible refine And.intro ?_ ?_)
      all_goals first | omega | assumption | skip
      exact xD_in
    · intro k hk ih 
      refine b_262_95 (by omega) ?_
      repeat' first | (with_reducible intro _) | (with_reducible refine And.intro ?_ ?_)
      all_goals first | omega | assumption | skip
      rw [xfl_step (by omega)]
      exact ih
  exact xR_memc (key 0 (Nat.zero_le _)) (by (funext i; by_cases h95 : i = 95; (subst h95; first | rfl | exact (xcp_zero _ _ _ _).symm | exact (xup_self _ _).symm | exact (xup_self2 _ _ _).symm | exact (xup_self3 _ _ _ _).symm | exact xup_self _ _ | exact xfl_zero.symm); first | rfl | simp only [xsc_ne _ _ h95])) rfl
set_option maxRecDepth 8000 in
theorem sg_262_0_29 {d : Nat} {I : XI} {L : XL} {D : GD} {post : XQ}  {u1 : Int} (h : xR d 262 es_262 5 [xr (some 29), xi u1, xi (0 : Int), xi (20 : Int)] [] I L (gG D) 0 0 post) : xR d 262 es_262 0 [xr (some 29), xi u1, xt 0, xt 0] [] I L (gG D) 0 0 post := xW_R (fun k => Nat.beq k 5) 5 _ _ _ _ _ _ _ _ _ _ _ _ h
set_option maxRecDepth 8000 in
theorem w_262_29 {d : Nat} {I : XI} {L : XL} {D : GD} {post : XQ}   {v : Int} (hd : 0 ≤ d) (h : xR d 262 es_262 5 [xr (some 29), xi v, xi (0 : Int), xi (20 : Int)] [] I L (gG D) 0 0 post) : xR d 262 es_262 0 [xr (some 29), xi v, xt 0, xt 0] [] I L (gG D) 0 0 post := sg_262_0_29  (h)
set_option maxRecDepth 8000 in
theorem sg_262_5_29 {d : Nat} {I : XI} {L : XL} {D : GD} {post : XQ}  {u1 : Int} {u2 : Int} {u3 : Int} (h : (((-2147483648 ≤ u2 ∧ u2 ≤ 2147483647) ∧ (-2147483648 ≤ u3 ∧ u3 ≤ 2147483647)) ∧ ((u3 ≤ u2 → post none I L (gG D)) ∧ (u2 < u3 → ((0 ≤ u2 ∧ u2 < (20 : Int)) ∧ xR d 262 es_262 5 [xr (some 29), xi u1, xi (u2 + (1 : Int)), xi u3] [] (xwr I 29 u2 u1) L (gG D) 0 0 post))))) : xR d 262 es_262 5 [xr (some 29), xi u1, xi u2, xi u3] [] I L (gG D) 0 0 post := xW_R (fun k => Nat.beq k 5) 9 _ _ _ _ _ _ _ _ _ _ _ _ h
set_option maxRecDepth 8000 in
theorem b_262_29 {d : Nat} {I : XI} {L : XL} {D : GD} {post : XQ} {f : Int → Int}  {v : Int} {i : Int} {n : Int} (hd : 0 ≤ d) (h : (((-2147483648 ≤ i ∧ i ≤ 2147483647) ∧ (-2147483648 ≤ n ∧ n ≤ 2147483647)) ∧ ((n ≤ i → post none (xsc I 29 f) L (gG D)) ∧ (i < n → (((0 ≤ i ∧ i < (20 : Int))) ∧ xR d 262 es_262 5 [xr (some 29), xi v, xi (i + (1 : Int)), xi n] [] (xsc I 29 (xup f i v)) L (gG D) 0 0 post))))) : xR d 262 es_262 5 [xr (some 29), xi v, xi i, xi n] [] (xsc I 29 f) L (gG D) 0 0 post := sg_262_5_29  (⟨⟨h.1.1, h.1.2⟩, ⟨fun q724 => (h.2.1 q724), fun q725 => ⟨(h.2.2 q725).1, (xR_memc (h.2.2 q725).2 (funext fun i => (xpt rfl (fun h29_ => (by simp only [xsc_ne _ _ h29_, xwr_ne _ _ _ h29_])))) rfl)⟩⟩⟩)
theorem c_262_29 {I : XI} {L : XL} {D : GD}   {v : Int} : xM 0 262 [xr (some 29), xi v] I L (gG D) (0, 0) (xD none (xsc I 29 (xfl (I 29) v 20)) L (gG D)) := by
  intro d hd
  refine w_262_29 (by omega) ?_
  have key : ∀ k : Nat, k ≤ 20 → xR d 262 es_262 5 [xr (some 29), xi v, xi (k : Int), xi 20] [] (xsc I 29 (xfl (I 29) v (k : Int))) L (gG D) 0 0 (xD none (xsc I 29 (xfl (I 29) v 20)) L (gG D)) := by
    refine xfor ?_ ?_
    · refine b_262_29 (by omega) ?_
      repeat' first | (with_reducible intro _) | (with_reducible refine And.intro ?_ ?_)
      all_goals first | omega | assumption | skip
      exact xD_in
    · intro k hk ih 
      refine b_262_29 (by omega) ?_
      repeat' first | (with_reducible intro _) | (with_reducible refine And.intro ?_ ?_)
      all_goals first | omega | assumption | skip
      rw [xfl_step (by omega)]
      exact ih
  exact xR_memc (key 0 (Nat.zero_le _)) (by (funext i; by_cases h29 : i = 29; (subst h29; first | rfl | exact (xcp_zero _ _ _ _).symm | exact (xup_self _ _).symm | exact (xup_self2 _ _ _).symm | exact (xup_self3 _ _ _ _).symm | exact xup_self _ _ | exact xfl_zero.symm); first | rfl | simp only [xsc_ne _ _ h29])) rfl
theorem cvw_lay {F Kd Z Tr Lk T T0 O O0 U U0 P : Int → Int} (h1 : T0 1 = F 1) (h4 : 0 ≤ F 4 ∧ F 4 ≤ 5) : cvw F Kd Z Tr Lk (xup (xup T 1 (F 1)) 2 0) (xfl O (-1) 10) (xcp Tr U 0 0 5) P = pbeg (cvw F Kd Z Tr Lk T0 O0 U0 P) := by
  funext j
  unfold pbeg
  by_cases a : j = 10
  · subst a; rfl
  · rw [if_neg a]
    by_cases b : 11 ≤ j ∧ j < 21
    · rw [if_pos b]
      have := cvw_o (F := F) (Kd := Kd) (Z := Z) (Tr := Tr) (Lk := Lk) (T := (xup (xup T 1 (F 1)) 2 0)) (O := xfl O (-1) 10) (U := xcp Tr U 0 0 5) (P := P) (s := j - 11) (by omega)
      rw [show 11 + (j - 11) = j by omega] at this
      rw [this]
      unfold xfl
      rw [if_pos (by omega)]
    · rw [if_neg b]
      by_cases c : 21 ≤ j ∧ j < 26
      · rw [if_pos c]
        unfold cvw
        rw [if_neg (by omega), if_neg (by omega), if_neg (by omega), if_neg (by omega), if_neg (by omega), if_neg (by omega), if_neg (by omega), if_pos c]
        rw [if_neg (show ¬ 25 + j = 0 by omega), if_neg (show ¬ 25 + j = 1 by omega), if_neg (show ¬ 25 + j = 2 by omega), if_neg (show ¬ 25 + j = 3 by omega), if_neg (show ¬ 25 + j = 4 by omega), if_neg (show ¬ 25 + j = 10 by omega), if_neg (show ¬ (11 ≤ 25 + j ∧ 25 + j < 21) by omega), if_neg (show ¬ (21 ≤ 25 + j ∧ 25 + j < 26) by omega), if_neg (show ¬ (26 ≤ 25 + j ∧ 25 + j < 36) by omega), if_neg (show ¬ (36 ≤ 25 + j ∧ 25 + j < 46) by omega), if_pos (show 46 ≤ 25 + j ∧ 25 + j < 51 by omega)]
        rw [show 25 + j - 46 = j - 21 by omega]
        split
        · unfold xcp
          rw [if_pos (by omega)]
          congr 1; omega
        · rfl
      · rw [if_neg c]
        unfold cvw
        by_cases e : j = 1
        · subst e; exact h1.symm
        · rw [if_neg e, if_neg e, if_neg a, if_neg a, if_neg b, if_neg b, if_neg c, if_neg c]
theorem cvw_copy {F Kd Z Tr Lk T T2 O O2 U U2 P : Int → Int} (h4 : F 4 ≤ 5) : cvw F Kd Z Tr Lk (xup (xup T2 1 (T 1)) 2 (T 2)) (xcp O O2 0 0 10) (xcp U U2 0 0 5) P = cvw F Kd Z Tr Lk T O U P := by
  funext j
  unfold cvw
  by_cases a : j = 10
  · subst a; rfl
  · by_cases b : j = 1
    · subst b; rfl
    · rw [if_neg a, if_neg a, if_neg b, if_neg b]
      by_cases c : 11 ≤ j ∧ j < 21
      · rw [if_pos c, if_pos c, xcp_in (by omega), show 0 + (j - 11 - 0) = j - 11 by omega]
      · rw [if_neg c, if_neg c]
        by_cases e : 21 ≤ j ∧ j < 26
        · rw [if_pos e, if_pos e, xcp_in (by omega), show 0 + (j - 21 - 0) = j - 21 by omega]
        · rw [if_neg e, if_neg e]
set_option maxRecDepth 8000 in
theorem sg_80_0_16 {d : Nat} {I : XI} {L : XL} {D : GD} {post : XQ}   (h : xR d 80 es_80 11 [xr (some 16)] [xi (-1 : Int), xr (some 17)] (xwr (xwr I 16 (1 : Int) (I 10 (1 : Int))) 16 (2 : Int) (0 : Int)) L (gG D) 0 0 post) : xR d 80 es_80 0 [xr (some 16)] [] I L (gG D) 0 0 post := xW_R (fun k => Nat.beq k 11) 11 _ _ _ _ _ _ _ _ _ _ _ _ h
set_option maxRecDepth 8000 in
theorem sg_80_12_16 {d : Nat} {I : XI} {L : XL} {D : GD} {post : XQ}   (h : ((0 ≤ (0 : Int) ∧ 0 ≤ (0 : Int) ∧ 0 ≤ (5 : Int) ∧ (0 : Int) + (5 : Int) ≤ (5 : Int) ∧ (0 : Int) + (5 : Int) ≤ (5 : Int) ∧ 1 ≤ d ∧ 0 ≤ 8) ∧ post none (xsc I 18 (xcp (I 13) (I 18) (0 : Int) (0 : Int) (5 : Int))) L (gG D))) : xR d 80 es_80 12 [xr (some 16)] [] I L (gG D) 0 0 post := xW_R (fun k => Nat.beq k 11) 12 _ _ _ _ _ _ _ _ _ _ _ _ h
set_option maxRecDepth 8000 in
theorem w_80_16 {d : Nat} {I : XI} {L : XL} {D : GD} {post : XQ}    (hd : 1 ≤ d) (h : post none (xsc (xsc (xsc I 16 (xup (xup (I 16) (1 : Int) (I 10 (1 : Int))) (2 : Int) (0 : Int))) 17 (xfl (I 17) (-1 : Int) 10)) 18 (xcp (I 13) (I 18) (0 : Int) (0 : Int) (5 : Int))) L (gG D)) : xR d 80 es_80 0 [xr (some 16)] [] I L (gG D) 0 0 post := sg_80_0_16  ((xR_cF rfl rfl rfl c_262_17 (by omega) (sg_80_12_16  ⟨⟨(by decide), (by decide), (by decide), (by decide), (by decide), (by omega), (by decide)⟩, (xpost h (funext fun i => (xpt rfl (fun h18_ => (xpt rfl (fun h17_ => (xpt rfl (fun h16_ => (by simp only [xsc_ne _ _ h16_, xwr_ne _ _ _ h16_, xsc_ne _ _ h17_, xwr_ne _ _ _ h17_, xsc_ne _ _ h18_, xwr_ne _ _ _ h18_])))))))) rfl)⟩)))
theorem c_80_16 {I : XI} {L : XL} {D : GD}    : xM 1 80 [xr (some 16)] I L (gG D) (0, 0) (xD none (xsc (xsc (xsc I 16 (xup (xup (I 16) (1 : Int) (I 10 (1 : Int))) (2 : Int) 0)) 17 (xfl (I 17) (-1) 10)) 18 (xcp (I 13) (I 18) 0 0 5)) L (gG D)) := by
  intro d hd
  refine w_80_16 (by omega) ?_
  repeat' first | (with_reducible intro _) | (with_reducible refine And.intro ?_ ?_)
  all_goals first | omega | exact xD_in
set_option maxRecDepth 8000 in
theorem sg_80_0_98 {d : Nat} {I : XI} {L : XL} {D : GD} {post : XQ}   (h : xR d 80 es_80 11 [xr (some 98)] [xi (-1 : Int), xr (some 99)] (xwr (xwr I 98 (1 : Int) (I 10 (1 : Int))) 98 (2 : Int) (0 : Int)) L (gG D) 0 0 post) : xR d 80 es_80 0 [xr (some 98)] [] I L (gG D) 0 0 post := xW_R (fun k => Nat.beq k 11) 11 _ _ _ _ _ _ _ _ _ _ _ _ h
set_option maxRecDepth 8000 in
theorem sg_80_12_98 {d : Nat} {I : XI} {L : XL} {D : GD} {post : XQ}   (h : ((0 ≤ (0 : Int) ∧ 0 ≤ (0 : Int) ∧ 0 ≤ (5 : Int) ∧ (0 : Int) + (5 : Int) ≤ (5 : Int) ∧ (0 : Int) + (5 : Int) ≤ (5 : Int) ∧ 1 ≤ d ∧ 0 ≤ 8) ∧ post none (xsc I 100 (xcp (I 13) (I 100) (0 : Int) (0 : Int) (5 : Int))) L (gG D))) : xR d 80 es_80 12 [xr (some 98)] [] I L (gG D) 0 0 post := xW_R (fun k => Nat.beq k 11) 12 _ _ _ _ _ _ _ _ _ _ _ _ h
set_option maxRecDepth 8000 in
theorem w_80_98 {d : Nat} {I : XI} {L : XL} {D : GD} {post : XQ}    (hd : 1 ≤ d) (h : post none (xsc (xsc (xsc I 98 (xup (xup (I 98) (1 : Int) (I 10 (1 : Int))) (2 : Int) (0 : Int))) 99 (xfl (I 99) (-1 : Int) 10)) 100 (xcp (I 13) (I 100) (0 : Int) (0 : Int) (5 : Int))) L (gG D)) : xR d 80 es_80 0 [xr (some 98)] [] I L (gG D) 0 0 post := sg_80_0_98  ((xR_cF rfl rfl rfl c_262_99 (by omega) (sg_80_12_98  ⟨⟨(by decide), (by decide), (by decide), (by decide), (by decide), (by omega), (by decide)⟩, (xpost h (funext fun i => (xpt rfl (fun h100_ => (xpt rfl (fun h99_ => (xpt rfl (fun h98_ => (by simp only [xsc_ne _ _ h98_, xwr_ne _ _ _ h98_, xsc_ne _ _ h99_, xwr_ne _ _ _ h99_, xsc_ne _ _ h100_, xwr_ne _ _ _ h100_])))))))) rfl)⟩)))
theorem c_80_98 {I : XI} {L : XL} {D : GD}    : xM 1 80 [xr (some 98)] I L (gG D) (0, 0) (xD none (xsc (xsc (xsc I 98 (xup (xup (I 98) (1 : Int) (I 10 (1 : Int))) (2 : Int) 0)) 99 (xfl (I 99) (-1) 10)) 100 (xcp (I 13) (I 100) 0 0 5)) L (gG D)) := by
  intro d hd
  refine w_80_98 (by omega) ?_
  repeat' first | (with_reducible intro _) | (with_reducible refine And.intro ?_ ?_)
  all_goals first | omega | exact xD_in
set_option maxRecDepth 8000 in
theorem sg_81_0_98_16 {d : Nat} {I : XI} {L : XL} {D : GD} {post : XQ}   (h : ((0 ≤ (0 : Int) ∧ 0 ≤ (0 : Int) ∧ 0 ≤ (10 : Int) ∧ (0 : Int) + (10 : Int) ≤ (10 : Int) ∧ (0 : Int) + (10 : Int) ≤ (10 : Int) ∧ 1 ≤ d ∧ 0 ≤ 8) ∧ ((0 ≤ (0 : Int) ∧ 0 ≤ (0 : Int) ∧ 0 ≤ (5 : Int) ∧ (0 : Int) + (5 : Int) ≤ (5 : Int) ∧ (0 : Int) + (5 : Int) ≤ (5 : Int) ∧ 1 ≤ d ∧ 0 ≤ 8) ∧ post none (xsc (xsc (xwr (xwr I 98 (1 : Int) (I 16 (1 : Int))) 98 (2 : Int) (I 16 (2 : Int))) 99 (xcp (I 17) (I 99) (0 : Int) (0 : Int) (10 : Int))) 100 (xcp (I 18) (I 100) (0 : Int) (0 : Int) (5 : Int))) L (gG D)))) : xR d 81 es_81 0 [xr (some 98), xr (some 16)] [] I L (gG D) 0 0 post := xW_R (fun k => false) 29 _ _ _ _ _ _ _ _ _ _ _ _ h
set_option maxRecDepth 8000 in
theorem w_81_98_16 {d : Nat} {I : XI} {L : XL} {D : GD} {post : XQ}    (hd : 1 ≤ d) (h : post none (xsc (xsc (xsc I 98 (xup (xup (I 98) (1 : Int) (I 16 (1 : Int))) (2 : Int) (I 16 (2 : Int)))) 99 (xcp (I 17) (I 99) (0 : Int) (0 : Int) (10 : Int))) 100 (xcp (I 18) (I 100) (0 : Int) (0 : Int) (5 : Int))) L (gG D)) : xR d 81 es_81 0 [xr (some 98), xr (some 16)] [] I L (gG D) 0 0 post := sg_81_0_98_16  (⟨⟨(by decide), (by decide), (by decide), (by decide), (by decide), (by omega), (by decide)⟩, ⟨⟨(by decide), (by decide), (by decide), (by decide), (by decide), (by omega), (by decide)⟩, (xpost h (funext fun i => (xpt rfl (fun h100_ => (xpt rfl (fun h99_ => (xpt rfl (fun h98_ => (by simp only [xsc_ne _ _ h98_, xwr_ne _ _ _ h98_, xsc_ne _ _ h99_, xwr_ne _ _ _ h99_, xsc_ne _ _ h100_, xwr_ne _ _ _ h100_])))))))) rfl)⟩⟩)
theorem c_81_98_16 {I : XI} {L : XL} {D : GD}    : xM 1 81 [xr (some 98), xr (some 16)] I L (gG D) (0, 0) (xD none (xsc (xsc (xsc I 98 (xup (xup (I 98) (1 : Int) (I 16 (1 : Int))) (2 : Int) (I 16 (2 : Int)))) 99 (xcp (I 17) (I 99) 0 0 10)) 100 (xcp (I 18) (I 100) 0 0 5)) L (gG D)) := by
  intro d hd
  refine w_81_98_16 (by omega) ?_
  repeat' first | (with_reducible intro _) | (with_reducible refine And.intro ?_ ?_)
  all_goals first | omega | exact xD_in
set_option maxRecDepth 8000 in
theorem sg_81_0_45_16 {d : Nat} {I : XI} {L : XL} {D : GD} {post : XQ}   (h : ((0 ≤ (0 : Int) ∧ 0 ≤ (0 : Int) ∧ 0 ≤ (10 : Int) ∧ (0 : Int) + (10 : Int) ≤ (10 : Int) ∧ (0 : Int) + (10 : Int) ≤ (10 : Int) ∧ 1 ≤ d ∧ 0 ≤ 8) ∧ ((0 ≤ (0 : Int) ∧ 0 ≤ (0 : Int) ∧ 0 ≤ (5 : Int) ∧ (0 : Int) + (5 : Int) ≤ (5 : Int) ∧ (0 : Int) + (5 : Int) ≤ (5 : Int) ∧ 1 ≤ d ∧ 0 ≤ 8) ∧ post none (xsc (xsc (xwr (xwr I 45 (1 : Int) (I 16 (1 : Int))) 45 (2 : Int) (I 16 (2 : Int))) 46 (xcp (I 17) (I 46) (0 : Int) (0 : Int) (10 : Int))) 47 (xcp (I 18) (I 47) (0 : Int) (0 : Int) (5 : Int))) L (gG D)))) : xR d 81 es_81 0 [xr (some 45), xr (some 16)] [] I L (gG D) 0 0 post := xW_R (fun k => false) 29 _ _ _ _ _ _ _ _ _ _ _ _ h
set_option maxRecDepth 8000 in
theorem w_81_45_16 {d : Nat} {I : XI} {L : XL} {D : GD} {post : XQ}    (hd : 1 ≤ d) (h : post none (xsc (xsc (xsc I 45 (xup (xup (I 45) (1 : Int) (I 16 (1 : Int))) (2 : Int) (I 16 (2 : Int)))) 46 (xcp (I 17) (I 46) (0 : Int) (0 : Int) (10 : Int))) 47 (xcp (I 18) (I 47) (0 : Int) (0 : Int) (5 : Int))) L (gG D)) : xR d 81 es_81 0 [xr (some 45), xr (some 16)] [] I L (gG D) 0 0 post := sg_81_0_45_16  (⟨⟨(by decide), (by decide), (by decide), (by decide), (by decide), (by omega), (by decide)⟩, ⟨⟨(by decide), (by decide), (by decide), (by decide), (by decide), (by omega), (by decide)⟩, (xpost h (funext fun i => (xpt rfl (fun h47_ => (xpt rfl (fun h46_ => (xpt rfl (fun h45_ => (by simp only [xsc_ne _ _ h45_, xwr_ne _ _ _ h45_, xsc_ne _ _ h46_, xwr_ne _ _ _ h46_, xsc_ne _ _ h47_, xwr_ne _ _ _ h47_])))))))) rfl)⟩⟩)
theorem c_81_45_16 {I : XI} {L : XL} {D : GD}    : xM 1 81 [xr (some 45), xr (some 16)] I L (gG D) (0, 0) (xD none (xsc (xsc (xsc I 45 (xup (xup (I 45) (1 : Int) (I 16 (1 : Int))) (2 : Int) (I 16 (2 : Int)))) 46 (xcp (I 17) (I 46) 0 0 10)) 47 (xcp (I 18) (I 47) 0 0 5)) L (gG D)) := by
  intro d hd
  refine w_81_45_16 (by omega) ?_
  repeat' first | (with_reducible intro _) | (with_reducible refine And.intro ?_ ?_)
  all_goals first | omega | exact xD_in
set_option maxRecDepth 8000 in
theorem sg_81_0_58_16 {d : Nat} {I : XI} {L : XL} {D : GD} {post : XQ}   (h : ((0 ≤ (0 : Int) ∧ 0 ≤ (0 : Int) ∧ 0 ≤ (10 : Int) ∧ (0 : Int) + (10 : Int) ≤ (10 : Int) ∧ (0 : Int) + (10 : Int) ≤ (10 : Int) ∧ 1 ≤ d ∧ 0 ≤ 8) ∧ ((0 ≤ (0 : Int) ∧ 0 ≤ (0 : Int) ∧ 0 ≤ (5 : Int) ∧ (0 : Int) + (5 : Int) ≤ (5 : Int) ∧ (0 : Int) + (5 : Int) ≤ (5 : Int) ∧ 1 ≤ d ∧ 0 ≤ 8) ∧ post none (xsc (xsc (xwr (xwr I 58 (1 : Int) (I 16 (1 : Int))) 58 (2 : Int) (I 16 (2 : Int))) 59 (xcp (I 17) (I 59) (0 : Int) (0 : Int) (10 : Int))) 60 (xcp (I 18) (I 60) (0 : Int) (0 : Int) (5 : Int))) L (gG D)))) : xR d 81 es_81 0 [xr (some 58), xr (some 16)] [] I L (gG D) 0 0 post := xW_R (fun k => false) 29 _ _ _ _ _ _ _ _ _ _ _ _ h
set_option maxRecDepth 8000 in
theorem w_81_58_16 {d : Nat} {I : XI} {L : XL} {D : GD} {post : XQ}    (hd : 1 ≤ d) (h : post none (xsc (xsc (xsc I 58 (xup (xup (I 58) (1 : Int) (I 16 (1 : Int))) (2 : Int) (I 16 (2 : Int)))) 59 (xcp (I 17) (I 59) (0 : Int) (0 : Int) (10 : Int))) 60 (xcp (I 18) (I 60) (0 : Int) (0 : Int) (5 : Int))) L (gG D)) : xR d 81 es_81 0 [xr (some 58), xr (some 16)] [] I L (gG D) 0 0 post := sg_81_0_58_16  (⟨⟨(by decide), (by decide), (by decide), (by decide), (by decide), (by omega), (by decide)⟩, ⟨⟨(by decide), (by decide), (by decide), (by decide), (by decide), (by omega), (by decide)⟩, (xpost h (funext fun i => (xpt rfl (fun h60_ => (xpt rfl (fun h59_ => (xpt rfl (fun h58_ => (by simp only [xsc_ne _ _ h58_, xwr_ne _ _ _ h58_, xsc_ne _ _ h59_, xwr_ne _ _ _ h59_, xsc_ne _ _ h60_, xwr_ne _ _ _ h60_])))))))) rfl)⟩⟩)
theorem c_81_58_16 {I : XI} {L : XL} {D : GD}    : xM 1 81 [xr (some 58), xr (some 16)] I L (gG D) (0, 0) (xD none (xsc (xsc (xsc I 58 (xup (xup (I 58) (1 : Int) (I 16 (1 : Int))) (2 : Int) (I 16 (2 : Int)))) 59 (xcp (I 17) (I 59) 0 0 10)) 60 (xcp (I 18) (I 60) 0 0 5)) L (gG D)) := by
  intro d hd
  refine w_81_58_16 (by omega) ?_
  repeat' first | (with_reducible intro _) | (with_reducible refine And.intro ?_ ?_)
  all_goals first | omega | exact xD_in
set_option maxRecDepth 8000 in
theorem sg_81_0_71_16 {d : Nat} {I : XI} {L : XL} {D : GD} {post : XQ}   (h : ((0 ≤ (0 : Int) ∧ 0 ≤ (0 : Int) ∧ 0 ≤ (10 : Int) ∧ (0 : Int) + (10 : Int) ≤ (10 : Int) ∧ (0 : Int) + (10 : Int) ≤ (10 : Int) ∧ 1 ≤ d ∧ 0 ≤ 8) ∧ ((0 ≤ (0 : Int) ∧ 0 ≤ (0 : Int) ∧ 0 ≤ (5 : Int) ∧ (0 : Int) + (5 : Int) ≤ (5 : Int) ∧ (0 : Int) + (5 : Int) ≤ (5 : Int) ∧ 1 ≤ d ∧ 0 ≤ 8) ∧ post none (xsc (xsc (xwr (xwr I 71 (1 : Int) (I 16 (1 : Int))) 71 (2 : Int) (I 16 (2 : Int))) 72 (xcp (I 17) (I 72) (0 : Int) (0 : Int) (10 : Int))) 73 (xcp (I 18) (I 73) (0 : Int) (0 : Int) (5 : Int))) L (gG D)))) : xR d 81 es_81 0 [xr (some 71), xr (some 16)] [] I L (gG D) 0 0 post := xW_R (fun k => false) 29 _ _ _ _ _ _ _ _ _ _ _ _ h
set_option maxRecDepth 8000 in
theorem w_81_71_16 {d : Nat} {I : XI} {L : XL} {D : GD} {post : XQ}    (hd : 1 ≤ d) (h : post none (xsc (xsc (xsc I 71 (xup (xup (I 71) (1 : Int) (I 16 (1 : Int))) (2 : Int) (I 16 (2 : Int)))) 72 (xcp (I 17) (I 72) (0 : Int) (0 : Int) (10 : Int))) 73 (xcp (I 18) (I 73) (0 : Int) (0 : Int) (5 : Int))) L (gG D)) : xR d 81 es_81 0 [xr (some 71), xr (some 16)] [] I L (gG D) 0 0 post := sg_81_0_71_16  (⟨⟨(by decide), (by decide), (by decide), (by decide), (by decide), (by omega), (by decide)⟩, ⟨⟨(by decide), (by decide), (by decide), (by decide), (by decide), (by omega), (by decide)⟩, (xpost h (funext fun i => (xpt rfl (fun h73_ => (xpt rfl (fun h72_ => (xpt rfl (fun h71_ => (by simp only [xsc_ne _ _ h71_, xwr_ne _ _ _ h71_, xsc_ne _ _ h72_, xwr_ne _ _ _ h72_, xsc_ne _ _ h73_, xwr_ne _ _ _ h73_])))))))) rfl)⟩⟩)
theorem c_81_71_16 {I : XI} {L : XL} {D : GD}    : xM 1 81 [xr (some 71), xr (some 16)] I L (gG D) (0, 0) (xD none (xsc (xsc (xsc I 71 (xup (xup (I 71) (1 : Int) (I 16 (1 : Int))) (2 : Int) (I 16 (2 : Int)))) 72 (xcp (I 17) (I 72) 0 0 10)) 73 (xcp (I 18) (I 73) 0 0 5)) L (gG D)) := by
  intro d hd
  refine w_81_71_16 (by omega) ?_
  repeat' first | (with_reducible intro _) | (with_reducible refine And.intro ?_ ?_)
  all_goals first | omega | exact xD_in
set_option maxRecDepth 8000 in
theorem sg_81_0_84_16 {d : Nat} {I : XI} {L : XL} {D : GD} {post : XQ}   (h : ((0 ≤ (0 : Int) ∧ 0 ≤ (0 : Int) ∧ 0 ≤ (10 : Int) ∧ (0 : Int) + (10 : Int) ≤ (10 : Int) ∧ (0 : Int) + (10 : Int) ≤ (10 : Int) ∧ 1 ≤ d ∧ 0 ≤ 8) ∧ ((0 ≤ (0 : Int) ∧ 0 ≤ (0 : Int) ∧ 0 ≤ (5 : Int) ∧ (0 : Int) + (5 : Int) ≤ (5 : Int) ∧ (0 : Int) + (5 : Int) ≤ (5 : Int) ∧ 1 ≤ d ∧ 0 ≤ 8) ∧ post none (xsc (xsc (xwr (xwr I 84 (1 : Int) (I 16 (1 : Int))) 84 (2 : Int) (I 16 (2 : Int))) 85 (xcp (I 17) (I 85) (0 : Int) (0 : Int) (10 : Int))) 86 (xcp (I 18) (I 86) (0 : Int) (0 : Int) (5 : Int))) L (gG D)))) : xR d 81 es_81 0 [xr (some 84), xr (some 16)] [] I L (gG D) 0 0 post := xW_R (fun k => false) 29 _ _ _ _ _ _ _ _ _ _ _ _ h
set_option maxRecDepth 8000 in
theorem w_81_84_16 {d : Nat} {I : XI} {L : XL} {D : GD} {post : XQ}    (hd : 1 ≤ d) (h : post none (xsc (xsc (xsc I 84 (xup (xup (I 84) (1 : Int) (I 16 (1 : Int))) (2 : Int) (I 16 (2 : Int)))) 85 (xcp (I 17) (I 85) (0 : Int) (0 : Int) (10 : Int))) 86 (xcp (I 18) (I 86) (0 : Int) (0 : Int) (5 : Int))) L (gG D)) : xR d 81 es_81 0 [xr (some 84), xr (some 16)] [] I L (gG D) 0 0 post := sg_81_0_84_16  (⟨⟨(by decide), (by decide), (by decide), (by decide), (by decide), (by omega), (by decide)⟩, ⟨⟨(by decide), (by decide), (by decide), (by decide), (by decide), (by omega), (by decide)⟩, (xpost h (funext fun i => (xpt rfl (fun h86_ => (xpt rfl (fun h85_ => (xpt rfl (fun h84_ => (by simp only [xsc_ne _ _ h84_, xwr_ne _ _ _ h84_, xsc_ne _ _ h85_, xwr_ne _ _ _ h85_, xsc_ne _ _ h86_, xwr_ne _ _ _ h86_])))))))) rfl)⟩⟩)
theorem c_81_84_16 {I : XI} {L : XL} {D : GD}    : xM 1 81 [xr (some 84), xr (some 16)] I L (gG D) (0, 0) (xD none (xsc (xsc (xsc I 84 (xup (xup (I 84) (1 : Int) (I 16 (1 : Int))) (2 : Int) (I 16 (2 : Int)))) 85 (xcp (I 17) (I 85) 0 0 10)) 86 (xcp (I 18) (I 86) 0 0 5)) L (gG D)) := by
  intro d hd
  refine w_81_84_16 (by omega) ?_
  repeat' first | (with_reducible intro _) | (with_reducible refine And.intro ?_ ?_)
  all_goals first | omega | exact xD_in
set_option maxRecDepth 8000 in
theorem sg_81_0_16_45 {d : Nat} {I : XI} {L : XL} {D : GD} {post : XQ}   (h : ((0 ≤ (0 : Int) ∧ 0 ≤ (0 : Int) ∧ 0 ≤ (10 : Int) ∧ (0 : Int) + (10 : Int) ≤ (10 : Int) ∧ (0 : Int) + (10 : Int) ≤ (10 : Int) ∧ 1 ≤ d ∧ 0 ≤ 8) ∧ ((0 ≤ (0 : Int) ∧ 0 ≤ (0 : Int) ∧ 0 ≤ (5 : Int) ∧ (0 : Int) + (5 : Int) ≤ (5 : Int) ∧ (0 : Int) + (5 : Int) ≤ (5 : Int) ∧ 1 ≤ d ∧ 0 ≤ 8) ∧ post none (xsc (xsc (xwr (xwr I 16 (1 : Int) (I 45 (1 : Int))) 16 (2 : Int) (I 45 (2 : Int))) 17 (xcp (I 46) (I 17) (0 : Int) (0 : Int) (10 : Int))) 18 (xcp (I 47) (I 18) (0 : Int) (0 : Int) (5 : Int))) L (gG D)))) : xR d 81 es_81 0 [xr (some 16), xr (some 45)] [] I L (gG D) 0 0 post := xW_R (fun k => false) 29 _ _ _ _ _ _ _ _ _ _ _ _ h
set_option maxRecDepth 8000 in
theorem w_81_16_45 {d : Nat} {I : XI} {L : XL} {D : GD} {post : XQ}    (hd : 1 ≤ d) (h : post none (xsc (xsc (xsc I 16 (xup (xup (I 16) (1 : Int) (I 45 (1 : Int))) (2 : Int) (I 45 (2 : Int)))) 17 (xcp (I 46) (I 17) (0 : Int) (0 : Int) (10 : Int))) 18 (xcp (I 47) (I 18) (0 : Int) (0 : Int) (5 : Int))) L (gG D)) : xR d 81 es_81 0 [xr (some 16), xr (some 45)] [] I L (gG D) 0 0 post := sg_81_0_16_45  (⟨⟨(by decide), (by decide), (by decide), (by decide), (by decide), (by omega), (by decide)⟩, ⟨⟨(by decide), (by decide), (by decide), (by decide), (by decide), (by omega), (by decide)⟩, (xpost h (funext fun i => (xpt rfl (fun h18_ => (xpt rfl (fun h17_ => (xpt rfl (fun h16_ => (by simp only [xsc_ne _ _ h16_, xwr_ne _ _ _ h16_, xsc_ne _ _ h17_, xwr_ne _ _ _ h17_, xsc_ne _ _ h18_, xwr_ne _ _ _ h18_])))))))) rfl)⟩⟩)
theorem c_81_16_45 {I : XI} {L : XL} {D : GD}    : xM 1 81 [xr (some 16), xr (some 45)] I L (gG D) (0, 0) (xD none (xsc (xsc (xsc I 16 (xup (xup (I 16) (1 : Int) (I 45 (1 : Int))) (2 : Int) (I 45 (2 : Int)))) 17 (xcp (I 46) (I 17) 0 0 10)) 18 (xcp (I 47) (I 18) 0 0 5)) L (gG D)) := by
  intro d hd
  refine w_81_16_45 (by omega) ?_
  repeat' first | (with_reducible intro _) | (with_reducible refine And.intro ?_ ?_)
  all_goals first | omega | exact xD_in
set_option maxRecDepth 8000 in
theorem sg_81_0_16_58 {d : Nat} {I : XI} {L : XL} {D : GD} {post : XQ}   (h : ((0 ≤ (0 : Int) ∧ 0 ≤ (0 : Int) ∧ 0 ≤ (10 : Int) ∧ (0 : Int) + (10 : Int) ≤ (10 : Int) ∧ (0 : Int) + (10 : Int) ≤ (10 : Int) ∧ 1 ≤ d ∧ 0 ≤ 8) ∧ ((0 ≤ (0 : Int) ∧ 0 ≤ (0 : Int) ∧ 0 ≤ (5 : Int) ∧ (0 : Int) + (5 : Int) ≤ (5 : Int) ∧ (0 : Int) + (5 : Int) ≤ (5 : Int) ∧ 1 ≤ d ∧ 0 ≤ 8) ∧ post none (xsc (xsc (xwr (xwr I 16 (1 : Int) (I 58 (1 : Int))) 16 (2 : Int) (I 58 (2 : Int))) 17 (xcp (I 59) (I 17) (0 : Int) (0 : Int) (10 : Int))) 18 (xcp (I 60) (I 18) (0 : Int) (0 : Int) (5 : Int))) L (gG D)))) : xR d 81 es_81 0 [xr (some 16), xr (some 58)] [] I L (gG D) 0 0 post := xW_R (fun k => false) 29 _ _ _ _ _ _ _ _ _ _ _ _ h
set_option maxRecDepth 8000 in
theorem w_81_16_58 {d : Nat} {I : XI} {L : XL} {D : GD} {post : XQ}    (hd : 1 ≤ d) (h : post none (xsc (xsc (xsc I 16 (xup (xup (I 16) (1 : Int) (I 58 (1 : Int))) (2 : Int) (I 58 (2 : Int)))) 17 (xcp (I 59) (I 17) (0 : Int) (0 : Int) (10 : Int))) 18 (xcp (I 60) (I 18) (0 : Int) (0 : Int) (5 : Int))) L (gG D)) : xR d 81 es_81 0 [xr (some 16), xr (some 58)] [] I L (gG D) 0 0 post := sg_81_0_16_58  (⟨⟨(by decide), (by decide), (by decide), (by decide), (by decide), (by omega), (by decide)⟩, ⟨⟨(by decide), (by decide), (by decide), (by decide), (by decide), (by omega), (by decide)⟩, (xpost h (funext fun i => (xpt rfl (fun h18_ => (xpt rfl (fun h17_ => (xpt rfl (fun h16_ => (by simp only [xsc_ne _ _ h16_, xwr_ne _ _ _ h16_, xsc_ne _ _ h17_, xwr_ne _ _ _ h17_, xsc_ne _ _ h18_, xwr_ne _ _ _ h18_])))))))) rfl)⟩⟩)
theorem c_81_16_58 {I : XI} {L : XL} {D : GD}    : xM 1 81 [xr (some 16), xr (some 58)] I L (gG D) (0, 0) (xD none (xsc (xsc (xsc I 16 (xup (xup (I 16) (1 : Int) (I 58 (1 : Int))) (2 : Int) (I 58 (2 : Int)))) 17 (xcp (I 59) (I 17) 0 0 10)) 18 (xcp (I 60) (I 18) 0 0 5)) L (gG D)) := by
  intro d hd
  refine w_81_16_58 (by omega) ?_
  repeat' first | (with_reducible intro _) | (with_reducible refine And.intro ?_ ?_)
  all_goals first | omega | exact xD_in
set_option maxRecDepth 8000 in
theorem sg_81_0_16_71 {d : Nat} {I : XI} {L : XL} {D : GD} {post : XQ}   (h : ((0 ≤ (0 : Int) ∧ 0 ≤ (0 : Int) ∧ 0 ≤ (10 : Int) ∧ (0 : Int) + (10 : Int) ≤ (10 : Int) ∧ (0 : Int) + (10 : Int) ≤ (10 : Int) ∧ 1 ≤ d ∧ 0 ≤ 8) ∧ ((0 ≤ (0 : Int) ∧ 0 ≤ (0 : Int) ∧ 0 ≤ (5 : Int) ∧ (0 : Int) + (5 : Int) ≤ (5 : Int) ∧ (0 : Int) + (5 : Int) ≤ (5 : Int) ∧ 1 ≤ d ∧ 0 ≤ 8) ∧ post none (xsc (xsc (xwr (xwr I 16 (1 : Int) (I 71 (1 : Int))) 16 (2 : Int) (I 71 (2 : Int))) 17 (xcp (I 72) (I 17) (0 : Int) (0 : Int) (10 : Int))) 18 (xcp (I 73) (I 18) (0 : Int) (0 : Int) (5 : Int))) L (gG D)))) : xR d 81 es_81 0 [xr (some 16), xr (some 71)] [] I L (gG D) 0 0 post := xW_R (fun k => false) 29 _ _ _ _ _ _ _ _ _ _ _ _ h
set_option maxRecDepth 8000 in
theorem w_81_16_71 {d : Nat} {I : XI} {L : XL} {D : GD} {post : XQ}    (hd : 1 ≤ d) (h : post none (xsc (xsc (xsc I 16 (xup (xup (I 16) (1 : Int) (I 71 (1 : Int))) (2 : Int) (I 71 (2 : Int)))) 17 (xcp (I 72) (I 17) (0 : Int) (0 : Int) (10 : Int))) 18 (xcp (I 73) (I 18) (0 : Int) (0 : Int) (5 : Int))) L (gG D)) : xR d 81 es_81 0 [xr (some 16), xr (some 71)] [] I L (gG D) 0 0 post := sg_81_0_16_71  (⟨⟨(by decide), (by decide), (by decide), (by decide), (by decide), (by omega), (by decide)⟩, ⟨⟨(by decide), (by decide), (by decide), (by decide), (by decide), (by omega), (by decide)⟩, (xpost h (funext fun i => (xpt rfl (fun h18_ => (xpt rfl (fun h17_ => (xpt rfl (fun h16_ => (by simp only [xsc_ne _ _ h16_, xwr_ne _ _ _ h16_, xsc_ne _ _ h17_, xwr_ne _ _ _ h17_, xsc_ne _ _ h18_, xwr_ne _ _ _ h18_])))))))) rfl)⟩⟩)
theorem c_81_16_71 {I : XI} {L : XL} {D : GD}    : xM 1 81 [xr (some 16), xr (some 71)] I L (gG D) (0, 0) (xD none (xsc (xsc (xsc I 16 (xup (xup (I 16) (1 : Int) (I 71 (1 : Int))) (2 : Int) (I 71 (2 : Int)))) 17 (xcp (I 72) (I 17) 0 0 10)) 18 (xcp (I 73) (I 18) 0 0 5)) L (gG D)) := by
  intro d hd
  refine w_81_16_71 (by omega) ?_
  repeat' first | (with_reducible intro _) | (with_reducible refine And.intro ?_ ?_)
  all_goals first | omega | exact xD_in
set_option maxRecDepth 8000 in
theorem sg_81_0_16_84 {d : Nat} {I : XI} {L : XL} {D : GD} {post : XQ}   (h : ((0 ≤ (0 : Int) ∧ 0 ≤ (0 : Int) ∧ 0 ≤ (10 : Int) ∧ (0 : Int) + (10 : Int) ≤ (10 : Int) ∧ (0 : Int) + (10 : Int) ≤ (10 : Int) ∧ 1 ≤ d ∧ 0 ≤ 8) ∧ ((0 ≤ (0 : Int) ∧ 0 ≤ (0 : Int) ∧ 0 ≤ (5 : Int) ∧ (0 : Int) + (5 : Int) ≤ (5 : Int) ∧ (0 : Int) + (5 : Int) ≤ (5 : Int) ∧ 1 ≤ d ∧ 0 ≤ 8) ∧ post none (xsc (xsc (xwr (xwr I 16 (1 : Int) (I 84 (1 : Int))) 16 (2 : Int) (I 84 (2 : Int))) 17 (xcp (I 85) (I 17) (0 : Int) (0 : Int) (10 : Int))) 18 (xcp (I 86) (I 18) (0 : Int) (0 : Int) (5 : Int))) L (gG D)))) : xR d 81 es_81 0 [xr (some 16), xr (some 84)] [] I L (gG D) 0 0 post := xW_R (fun k => false) 29 _ _ _ _ _ _ _ _ _ _ _ _ h
set_option maxRecDepth 8000 in
theorem w_81_16_84 {d : Nat} {I : XI} {L : XL} {D : GD} {post : XQ}    (hd : 1 ≤ d) (h : post none (xsc (xsc (xsc I 16 (xup (xup (I 16) (1 : Int) (I 84 (1 : Int))) (2 : Int) (I 84 (2 : Int)))) 17 (xcp (I 85) (I 17) (0 : Int) (0 : Int) (10 : Int))) 18 (xcp (I 86) (I 18) (0 : Int) (0 : Int) (5 : Int))) L (gG D)) : xR d 81 es_81 0 [xr (some 16), xr (some 84)] [] I L (gG D) 0 0 post := sg_81_0_16_84  (⟨⟨(by decide), (by decide), (by decide), (by decide), (by decide), (by omega), (by decide)⟩, ⟨⟨(by decide), (by decide), (by decide), (by decide), (by decide), (by omega), (by decide)⟩, (xpost h (funext fun i => (xpt rfl (fun h18_ => (xpt rfl (fun h17_ => (xpt rfl (fun h16_ => (by simp only [xsc_ne _ _ h16_, xwr_ne _ _ _ h16_, xsc_ne _ _ h17_, xwr_ne _ _ _ h17_, xsc_ne _ _ h18_, xwr_ne _ _ _ h18_])))))))) rfl)⟩⟩)
theorem c_81_16_84 {I : XI} {L : XL} {D : GD}    : xM 1 81 [xr (some 16), xr (some 84)] I L (gG D) (0, 0) (xD none (xsc (xsc (xsc I 16 (xup (xup (I 16) (1 : Int) (I 84 (1 : Int))) (2 : Int) (I 84 (2 : Int)))) 17 (xcp (I 85) (I 17) 0 0 10)) 18 (xcp (I 86) (I 18) 0 0 5)) L (gG D)) := by
  intro d hd
  refine w_81_16_84 (by omega) ?_
  repeat' first | (with_reducible intro _) | (with_reducible refine And.intro ?_ ?_)
  all_goals first | omega | exact xD_in
/-! the class's rules, reckoned out -/
theorem beq_f {i c : Nat} (h : ¬ i = c) : Nat.beq i c = false := by
  cases hb : Nat.beq i c with
  | false => rfl
  | true => exact absurd (Nat.eq_of_beq_eq_true hb) h
def cmap (o : Int) : Int := if o = 6 then 14 else if o = 7 then 6 else if o = 8 then 7 else if o = 9 then 8 else if o = 10 then 9 else if o = 11 then 10 else if o = 2 ∨ o = 3 ∨ o = 4 ∨ o = 5 ∨ o = 12 then o else 13
def pjoin (o : Int) (x y : Int64) : Int64 := pone (cmap o) x y
def cstp (x : Int) (w : Int → Int64) (st : List Int64) : Option (List Int64) :=
  if xand x 31 = 0 then (if st.length < 60 then some (Int64.ofInt (xshr x 5) :: st) else none)
  else if xand x 31 = 1 then (if st.length < 60 ∧ 0 ≤ xshr x 5 ∧ xshr x 5 < 12 then some (w (xshr x 5) :: st) else none)
  else if xand x 31 = 14 then (match st with
    | a :: r => some ((1 - a) :: r)
    | [] => none)
  else (match st with
    | y :: z :: r => some (pjoin (xand x 31) z y :: r)
    | _ => none)
def cex (cd : Int → Int) (w : Int → Int64) : Nat → Int → List Int64 → Option (List Int64)
  | 0, _, st => some st
  | n + 1, q, st => (match cstp (cd q) w st with
    | some st2 => cex cd w n (q + 1) st2
    | none => none)
def ce1 (cd : Int → Int) (cl : Nat) (w : Int → Int64) (b e : Int) : Option Int64 := if 0 ≤ b ∧ b ≤ e ∧ e ≤ (cl : Int) ∧ cl ≤ 400 then ptop (cex cd w (e - b).toNat b []) else none
def crl (cd ss : Int → Int) (cl : Nat) (w : Int → Int64) : Nat → Int → Option Int64
  | 0, _ => some 0
  | n + 1, i => if ss (i + 1) = ss (i + 2) then ce1 cd cl w (ss i) (ss (i + 1))
    else (match ce1 cd cl w (ss (i + 1)) (ss (i + 2)) with
      | none => none
      | some t => if t = 0 then crl cd ss cl w n (i + 2) else ce1 cd cl w (ss i) (ss (i + 1)))
theorem xand31 (x : Int) : 0 ≤ xand x 31 ∧ xand x 31 ≤ 31 := by
  unfold xand
  show 0 ≤ ((Int32.ofInt x).toBitVec &&& BitVec.ofInt 32 31).toInt ∧ ((Int32.ofInt x).toBitVec &&& BitVec.ofInt 32 31).toInt ≤ 31
  generalize (Int32.ofInt x).toBitVec = y
  have h : (y &&& BitVec.ofInt 32 31).toNat ≤ 31 := by
    rw [BitVec.toNat_and]
    exact (Nat.and_le_right : _ ≤ (BitVec.ofInt 32 31).toNat)
  rw [BitVec.toInt_eq_toNat_of_lt (by omega)]
  omega
set_option maxRecDepth 8000 in
theorem sg_40_0 {d : Nat} {I : XI} {L : XL} {D : GD} {post : XQ}  {u0 : Int} {u1 : Int64} {u3 : Int64} (h : ((-2147483648 ≤ u0 ∧ u0 ≤ 2147483647) ∧ ((u0 = (2 : Int) → post (some (xl (u1 + u3))) I L (gG D)) ∧ (¬ u0 = (2 : Int) → ((u0 = (3 : Int) → post (some (xl (u1 - u3))) I L (gG D)) ∧ (¬ u0 = (3 : Int) → ((u0 = (4 : Int) → post (some (xl (u1 * u3))) I L (gG D)) ∧ (¬ u0 = (4 : Int) → ((u0 = (5 : Int) → ((-2147483648 ≤ (xlcm u3 (0 : Int64)) ∧ (xlcm u3 (0 : Int64)) ≤ 2147483647) ∧ ((¬ (xlcm u3 (0 : Int64)) = 0 → ((¬ u3 = 0) ∧ post (some (xl (u1 / u3))) I L (gG D))) ∧ ((xlcm u3 (0 : Int64)) = 0 → post (some (xl (0 : Int64))) I L (gG D))))) ∧ (¬ u0 = (5 : Int) → ((u0 = (6 : Int) → ((-2147483648 ≤ (xlcm u3 (0 : Int64)) ∧ (xlcm u3 (0 : Int64)) ≤ 2147483647) ∧ ((¬ (xlcm u3 (0 : Int64)) = 0 → ((¬ u3 = 0) ∧ post (some (xl (u1 - u1 / u3 * u3))) I L (gG D))) ∧ ((xlcm u3 (0 : Int64)) = 0 → post (some (xl (0 : Int64))) I L (gG D))))) ∧ (¬ u0 = (6 : Int) → ((u0 = (7 : Int) → ((-2147483648 ≤ (xlcm u1 u3) ∧ (xlcm u1 u3) ≤ 2147483647) ∧ ((0 ≤ (xlcm u1 u3) → post (some (xl (0 : Int64))) I L (gG D)) ∧ ((xlcm u1 u3) < 0 → post (some (xl (1 : Int64))) I L (gG D))))) ∧ (¬ u0 = (7 : Int) → ((u0 = (8 : Int) → ((-2147483648 ≤ (xlcm u1 u3) ∧ (xlcm u1 u3) ≤ 2147483647) ∧ ((0 < (xlcm u1 u3) → post (some (xl (0 : Int64))) I L (gG D)) ∧ ((xlcm u1 u3) ≤ 0 → post (some (xl (1 : Int64))) I L (gG D))))) ∧ (¬ u0 = (8 : Int) → ((u0 = (9 : Int) → ((-2147483648 ≤ (xlcm u1 u3) ∧ (xlcm u1 u3) ≤ 2147483647) ∧ ((¬ (xlcm u1 u3) = 0 → post (some (xl (0 : Int64))) I L (gG D)) ∧ ((xlcm u1 u3) = 0 → post (some (xl (1 : Int64))) I L (gG D))))) ∧ (¬ u0 = (9 : Int) → ((u0 = (10 : Int) → ((-2147483648 ≤ (xlcm u1 u3) ∧ (xlcm u1 u3) ≤ 2147483647) ∧ (((xlcm u1 u3) < 0 → post (some (xl (0 : Int64))) I L (gG D)) ∧ (0 ≤ (xlcm u1 u3) → post (some (xl (1 : Int64))) I L (gG D))))) ∧ (¬ u0 = (10 : Int) → ((u0 = (11 : Int) → ((-2147483648 ≤ (xlcm u1 u3) ∧ (xlcm u1 u3) ≤ 2147483647) ∧ (((xlcm u1 u3) ≤ 0 → post (some (xl (0 : Int64))) I L (gG D)) ∧ (0 < (xlcm u1 u3) → post (some (xl (1 : Int64))) I L (gG D))))) ∧ (¬ u0 = (11 : Int) → ((u0 = (12 : Int) → post (some (xl (u1 &&& u3))) I L (gG D)) ∧ (¬ u0 = (12 : Int) → post (some (xl (u1 ||| u3))) I L (gG D))))))))))))))))))))))))) : xR d 40 es_40 0 [xi u0, xl u1, xt 0, xl u3, xt 0] [] I L (gG D) 0 0 post := xW_R (fun k => false) 10 _ _ _ _ _ _ _ _ _ _ _ _ h
set_option maxRecDepth 8000 in
theorem w_40 {d : Nat} {I : XI} {L : XL} {D : GD} {post : XQ}   {s : Int} {x : Int64} {y : Int64} (hd : 0 ≤ d) (h : (((-2147483648 ≤ s ∧ s ≤ 2147483647)) ∧ (((s = (2 : Int) → post (some (xl (x + y))) I L (gG D)) ∧ (¬ s = (2 : Int) → (((s = (3 : Int) → post (some (xl (x - y))) I L (gG D)) ∧ (¬ s = (3 : Int) → (((s = (4 : Int) → post (some (xl (x * y))) I L (gG D)) ∧ (¬ s = (4 : Int) → (((s = (5 : Int) → (((¬ (xlcm y (0 : Int64)) = 0 → ((¬ y = 0) ∧ post (some (xl (x / y))) I L (gG D))) ∧ ((xlcm y (0 : Int64)) = 0 → post (some (xl (0 : Int64))) I L (gG D))))) ∧ (¬ s = (5 : Int) → (((s = (6 : Int) → (((¬ (xlcm y (0 : Int64)) = 0 → ((¬ y = 0) ∧ post (some (xl (x - x / y * y))) I L (gG D))) ∧ ((xlcm y (0 : Int64)) = 0 → post (some (xl (0 : Int64))) I L (gG D))))) ∧ (¬ s = (6 : Int) → (((s = (7 : Int) → (((0 ≤ (xlcm x y) → post (some (xl (0 : Int64))) I L (gG D)) ∧ ((xlcm x y) < 0 → post (some (xl (1 : Int64))) I L (gG D))))) ∧ (¬ s = (7 : Int) → (((s = (8 : Int) → (((0 < (xlcm x y) → post (some (xl (0 : Int64))) I L (gG D)) ∧ ((xlcm x y) ≤ 0 → post (some (xl (1 : Int64))) I L (gG D))))) ∧ (¬ s = (8 : Int) → (((s = (9 : Int) → (((¬ (xlcm x y) = 0 → post (some (xl (0 : Int64))) I L (gG D)) ∧ ((xlcm x y) = 0 → post (some (xl (1 : Int64))) I L (gG D))))) ∧ (¬ s = (9 : Int) → (((s = (10 : Int) → ((((xlcm x y) < 0 → post (some (xl (0 : Int64))) I L (gG D)) ∧ (0 ≤ (xlcm x y) → post (some (xl (1 : Int64))) I L (gG D))))) ∧ (¬ s = (10 : Int) → (((s = (11 : Int) → ((((xlcm x y) ≤ 0 → post (some (xl (0 : Int64))) I L (gG D)) ∧ (0 < (xlcm x y) → post (some (xl (1 : Int64))) I L (gG D))))) ∧ (¬ s = (11 : Int) → (((s = (12 : Int) → post (some (xl (x &&& y))) I L (gG D)) ∧ (¬ s = (12 : Int) → post (some (xl (x ||| y))) I L (gG D)))))))))))))))))))))))))))))))))))) : xR d 40 es_40 0 [xi s, xl x, xt 0, xl y, xt 0] [] I L (gG D) 0 0 post := sg_40_0  (⟨h.1, ⟨fun q760 => (h.2.1 q760), fun q761 => ⟨fun q758 => ((h.2.2 q761).1 q758), fun q759 => ⟨fun q756 => (((h.2.2 q761).2 q759).1 q756), fun q757 => ⟨fun q754 => ⟨(xlcm_rg _ _), ⟨fun q726 => ⟨(((((h.2.2 q761).2 q759).2 q757).1 q754).1 q726).1, (((((h.2.2 q761).2 q759).2 q757).1 q754).1 q726).2⟩, fun q727 => (((((h.2.2 q761).2 q759).2 q757).1 q754).2 q727)⟩⟩, fun q755 => ⟨fun q752 => ⟨(xlcm_rg _ _), ⟨fun q728 => ⟨((((((h.2.2 q761).2 q759).2 q757).2 q755).1 q752).1 q728).1, ((((((h.2.2 q761).2 q759).2 q757).2 q755).1 q752).1 q728).2⟩, fun q729 => ((((((h.2.2 q761).2 q759).2 q757).2 q755).1 q752).2 q729)⟩⟩, fun q753 => ⟨fun q750 => ⟨(xlcm_rg _ _), ⟨fun q730 => (((((((h.2.2 q761).2 q759).2 q757).2 q755).2 q753).1 q750).1 q730), fun q731 => (((((((h.2.2 q761).2 q759).2 q757).2 q755).2 q753).1 q750).2 q731)⟩⟩, fun q751 => ⟨fun q748 => ⟨(xlcm_rg _ _), ⟨fun q732 => ((((((((h.2.2 q761).2 q759).2 q757).2 q755).2 q753).2 q751).1 q748).1 q732), fun q733 => ((((((((h.2.2 q761).2 q759).2 q757).2 q755).2 q753).2 q751).1 q748).2 q733)⟩⟩, fun q749 => ⟨fun q746 => ⟨(xlcm_rg _ _), ⟨fun q734 => (((((((((h.2.2 q761).2 q759).2 q757).2 q755).2 q753).2 q751).2 q749).1 q746).1 q734), fun q735 => (((((((((h.2.2 q761).2 q759).2 q757).2 q755).2 q753).2 q751).2 q749).1 q746).2 q735)⟩⟩, fun q747 => ⟨fun q744 => ⟨(xlcm_rg _ _), ⟨fun q736 => ((((((((((h.2.2 q761).2 q759).2 q757).2 q755).2 q753).2 q751).2 q749).2 q747).1 q744).1 q736), fun q737 => ((((((((((h.2.2 q761).2 q759).2 q757).2 q755).2 q753).2 q751).2 q749).2 q747).1 q744).2 q737)⟩⟩, fun q745 => ⟨fun q742 => ⟨(xlcm_rg _ _), ⟨fun q738 => (((((((((((h.2.2 q761).2 q759).2 q757).2 q755).2 q753).2 q751).2 q749).2 q747).2 q745).1 q742).1 q738), fun q739 => (((((((((((h.2.2 q761).2 q759).2 q757).2 q755).2 q753).2 q751).2 q749).2 q747).2 q745).1 q742).2 q739)⟩⟩, fun q743 => ⟨fun q740 => (((((((((((h.2.2 q761).2 q759).2 q757).2 q755).2 q753).2 q751).2 q749).2 q747).2 q745).2 q743).1 q740), fun q741 => (((((((((((h.2.2 q761).2 q759).2 q757).2 q755).2 q753).2 q751).2 q749).2 q747).2 q745).2 q743).2 q741)⟩⟩⟩⟩⟩⟩⟩⟩⟩⟩⟩⟩)
theorem c_40 {I : XI} {L : XL} {D : GD}   {s : Int} {x : Int64} {y : Int64} (h : (0 ≤ s ∧ s ≤ 31)) : xM 0 40 [xi s, xl x, xl y] I L (gG D) (0, 0) (xD (some (xl (pjoin s x y))) I L (gG D)) := by
  intro d hd
  refine w_40 (by omega) ?_
  repeat' first | (with_reducible intro _) | (with_reducible refine And.intro ?_ ?_)
  all_goals first | omega | exact (xlcm_rg _ _) | exact (xlcm_rg _ _).1 | exact (xlcm_rg _ _).2 | (rename_i hq; exact fun q => hq ((xl_eq _ _).mpr q)) | skip
  all_goals (refine xD_eq ?_ rfl rfl; unfold pjoin cmap; (try simp only [xl_lt, xl_eq, xl_gt, xl_le, xl_ge] at *); first | (subst_vars; simp_all [pone]; done) | (simp_all [pone]; done))
def gGr0 (cl sl : Nat) (D : GD) : XG := (fun i j => cond (Nat.beq i 126) (if j = 0 then some 127 else if j = 1 then some 128 else none) (gP D i j), (fun i => cond (Nat.beq i 126) (4, 0) (cond (Nat.beq i 127) (101, cl) (cond (Nat.beq i 128) (101, sl) (gS D i))), (gG D).2.2))
theorem gGr0_eq {D : GD} (h : 0 < D.1) : gGr0 (D.2.1 0) (D.2.2.1 0) D = gG D := by
  have hb : ∀ c, c < 126 + 3 * (0 + 1) → Nat.blt c (126 + 3 * D.1) = true := fun c hc => Nat.ble_eq.mpr (by omega)
  refine Prod.ext ?_ (Prod.ext ?_ rfl)
  · funext i j
    show cond (Nat.beq i 126) _ (gP D i j) = gP D i j
    by_cases q : i = 126
    · subst q
      show (if j = 0 then some 127 else if j = 1 then some 128 else none) = cond (Nat.blt 126 (126 + 3 * D.1)) (if j = 0 then some 127 else if j = 1 then some 128 else none) none
      rw [hb _ (by decide)]
      rfl
    · rw [show Nat.beq i 126 = false from beq_f q]
      rfl
  · funext i
    show cond (Nat.beq i 126) (4, 0) (cond (Nat.beq i 127) (101, D.2.1 0) (cond (Nat.beq i 128) (101, D.2.2.1 0) (gS D i))) = gS D i
    by_cases q : i = 126
    · subst q
      show (4, 0) = cond (Nat.blt 126 (126 + 3 * D.1)) (4, 0) (0, 0)
      rw [hb _ (by decide)]
      rfl
    · rw [show Nat.beq i 126 = false from beq_f q]
      by_cases q : i = 127
      · subst q
        show (101, D.2.1 0) = cond (Nat.blt 127 (126 + 3 * D.1)) (101, D.2.1 0) (0, 0)
        rw [hb _ (by decide)]
        rfl
      · rw [show Nat.beq i 127 = false from beq_f q]
        by_cases q : i = 128
        · subst q
          show (101, D.2.2.1 0) = cond (Nat.blt 128 (126 + 3 * D.1)) (101, D.2.2.1 0) (0, 0)
          rw [hb _ (by decide)]
          rfl
        · rw [show Nat.beq i 128 = false from beq_f q]
          rfl
def gGr1 (cl sl : Nat) (D : GD) : XG := (fun i j => cond (Nat.beq i 129) (if j = 0 then some 130 else if j = 1 then some 131 else none) (gP D i j), (fun i => cond (Nat.beq i 129) (4, 0) (cond (Nat.beq i 130) (101, cl) (cond (Nat.beq i 131) (101, sl) (gS D i))), (gG D).2.2))
theorem gGr1_eq {D : GD} (h : 1 < D.1) : gGr1 (D.2.1 1) (D.2.2.1 1) D = gG D := by
  have hb : ∀ c, c < 126 + 3 * (1 + 1) → Nat.blt c (126 + 3 * D.1) = true := fun c hc => Nat.ble_eq.mpr (by omega)
  refine Prod.ext ?_ (Prod.ext ?_ rfl)
  · funext i j
    show cond (Nat.beq i 129) _ (gP D i j) = gP D i j
    by_cases q : i = 129
    · subst q
      show (if j = 0 then some 130 else if j = 1 then some 131 else none) = cond (Nat.blt 129 (126 + 3 * D.1)) (if j = 0 then some 130 else if j = 1 then some 131 else none) none
      rw [hb _ (by decide)]
      rfl
    · rw [show Nat.beq i 129 = false from beq_f q]
      rfl
  · funext i
    show cond (Nat.beq i 129) (4, 0) (cond (Nat.beq i 130) (101, D.2.1 1) (cond (Nat.beq i 131) (101, D.2.2.1 1) (gS D i))) = gS D i
    by_cases q : i = 129
    · subst q
      show (4, 0) = cond (Nat.blt 129 (126 + 3 * D.1)) (4, 0) (0, 0)
      rw [hb _ (by decide)]
      rfl
    · rw [show Nat.beq i 129 = false from beq_f q]
      by_cases q : i = 130
      · subst q
        show (101, D.2.1 1) = cond (Nat.blt 130 (126 + 3 * D.1)) (101, D.2.1 1) (0, 0)
        rw [hb _ (by decide)]
        rfl
      · rw [show Nat.beq i 130 = false from beq_f q]
        by_cases q : i = 131
        · subst q
          show (101, D.2.2.1 1) = cond (Nat.blt 131 (126 + 3 * D.1)) (101, D.2.2.1 1) (0, 0)
          rw [hb _ (by decide)]
          rfl
        · rw [show Nat.beq i 131 = false from beq_f q]
          rfl
def gGr2 (cl sl : Nat) (D : GD) : XG := (fun i j => cond (Nat.beq i 132) (if j = 0 then some 133 else if j = 1 then some 134 else none) (gP D i j), (fun i => cond (Nat.beq i 132) (4, 0) (cond (Nat.beq i 133) (101, cl) (cond (Nat.beq i 134) (101, sl) (gS D i))), (gG D).2.2))
theorem gGr2_eq {D : GD} (h : 2 < D.1) : gGr2 (D.2.1 2) (D.2.2.1 2) D = gG D := by
  have hb : ∀ c, c < 126 + 3 * (2 + 1) → Nat.blt c (126 + 3 * D.1) = true := fun c hc => Nat.ble_eq.mpr (by omega)
  refine Prod.ext ?_ (Prod.ext ?_ rfl)
  · funext i j
    show cond (Nat.beq i 132) _ (gP D i j) = gP D i j
    by_cases q : i = 132
    · subst q
      show (if j = 0 then some 133 else if j = 1 then some 134 else none) = cond (Nat.blt 132 (126 + 3 * D.1)) (if j = 0 then some 133 else if j = 1 then some 134 else none) none
      rw [hb _ (by decide)]
      rfl
    · rw [show Nat.beq i 132 = false from beq_f q]
      rfl
  · funext i
    show cond (Nat.beq i 132) (4, 0) (cond (Nat.beq i 133) (101, D.2.1 2) (cond (Nat.beq i 134) (101, D.2.2.1 2) (gS D i))) = gS D i
    by_cases q : i = 132
    · subst q
      show (4, 0) = cond (Nat.blt 132 (126 + 3 * D.1)) (4, 0) (0, 0)
      rw [hb _ (by decide)]
      rfl
    · rw [show Nat.beq i 132 = false from beq_f q]
      by_cases q : i = 133
      · subst q
        show (101, D.2.1 2) = cond (Nat.blt 133 (126 + 3 * D.1)) (101, D.2.1 2) (0, 0)
        rw [hb _ (by decide)]
        rfl
      · rw [show Nat.beq i 133 = false from beq_f q]
        by_cases q : i = 134
        · subst q
          show (101, D.2.2.1 2) = cond (Nat.blt 134 (126 + 3 * D.1)) (101, D.2.2.1 2) (0, 0)
          rw [hb _ (by decide)]
          rfl
        · rw [show Nat.beq i 134 = false from beq_f q]
          rfl
def gGr3 (cl sl : Nat) (D : GD) : XG := (fun i j => cond (Nat.beq i 135) (if j = 0 then some 136 else if j = 1 then some 137 else none) (gP D i j), (fun i => cond (Nat.beq i 135) (4, 0) (cond (Nat.beq i 136) (101, cl) (cond (Nat.beq i 137) (101, sl) (gS D i))), (gG D).2.2))
theorem gGr3_eq {D : GD} (h : 3 < D.1) : gGr3 (D.2.1 3) (D.2.2.1 3) D = gG D := by
  have hb : ∀ c, c < 126 + 3 * (3 + 1) → Nat.blt c (126 + 3 * D.1) = true := fun c hc => Nat.ble_eq.mpr (by omega)
  refine Prod.ext ?_ (Prod.ext ?_ rfl)
  · funext i j
    show cond (Nat.beq i 135) _ (gP D i j) = gP D i j
    by_cases q : i = 135
    · subst q
      show (if j = 0 then some 136 else if j = 1 then some 137 else none) = cond (Nat.blt 135 (126 + 3 * D.1)) (if j = 0 then some 136 else if j = 1 then some 137 else none) none
      rw [hb _ (by decide)]
      rfl
    · rw [show Nat.beq i 135 = false from beq_f q]
      rfl
  · funext i
    show cond (Nat.beq i 135) (4, 0) (cond (Nat.beq i 136) (101, D.2.1 3) (cond (Nat.beq i 137) (101, D.2.2.1 3) (gS D i))) = gS D i
    by_cases q : i = 135
    · subst q
      show (4, 0) = cond (Nat.blt 135 (126 + 3 * D.1)) (4, 0) (0, 0)
      rw [hb _ (by decide)]
      rfl
    · rw [show Nat.beq i 135 = false from beq_f q]
      by_cases q : i = 136
      · subst q
        show (101, D.2.1 3) = cond (Nat.blt 136 (126 + 3 * D.1)) (101, D.2.1 3) (0, 0)
        rw [hb _ (by decide)]
        rfl
      · rw [show Nat.beq i 136 = false from beq_f q]
        by_cases q : i = 137
        · subst q
          show (101, D.2.2.1 3) = cond (Nat.blt 137 (126 + 3 * D.1)) (101, D.2.2.1 3) (0, 0)
          rw [hb _ (by decide)]
          rfl
        · rw [show Nat.beq i 137 = false from beq_f q]
          rfl
def gGr4 (cl sl : Nat) (D : GD) : XG := (fun i j => cond (Nat.beq i 138) (if j = 0 then some 139 else if j = 1 then some 140 else none) (gP D i j), (fun i => cond (Nat.beq i 138) (4, 0) (cond (Nat.beq i 139) (101, cl) (cond (Nat.beq i 140) (101, sl) (gS D i))), (gG D).2.2))
theorem gGr4_eq {D : GD} (h : 4 < D.1) : gGr4 (D.2.1 4) (D.2.2.1 4) D = gG D := by
  have hb : ∀ c, c < 126 + 3 * (4 + 1) → Nat.blt c (126 + 3 * D.1) = true := fun c hc => Nat.ble_eq.mpr (by omega)
  refine Prod.ext ?_ (Prod.ext ?_ rfl)
  · funext i j
    show cond (Nat.beq i 138) _ (gP D i j) = gP D i j
    by_cases q : i = 138
    · subst q
      show (if j = 0 then some 139 else if j = 1 then some 140 else none) = cond (Nat.blt 138 (126 + 3 * D.1)) (if j = 0 then some 139 else if j = 1 then some 140 else none) none
      rw [hb _ (by decide)]
      rfl
    · rw [show Nat.beq i 138 = false from beq_f q]
      rfl
  · funext i
    show cond (Nat.beq i 138) (4, 0) (cond (Nat.beq i 139) (101, D.2.1 4) (cond (Nat.beq i 140) (101, D.2.2.1 4) (gS D i))) = gS D i
    by_cases q : i = 138
    · subst q
      show (4, 0) = cond (Nat.blt 138 (126 + 3 * D.1)) (4, 0) (0, 0)
      rw [hb _ (by decide)]
      rfl
    · rw [show Nat.beq i 138 = false from beq_f q]
      by_cases q : i = 139
      · subst q
        show (101, D.2.1 4) = cond (Nat.blt 139 (126 + 3 * D.1)) (101, D.2.1 4) (0, 0)
        rw [hb _ (by decide)]
        rfl
      · rw [show Nat.beq i 139 = false from beq_f q]
        by_cases q : i = 140
        · subst q
          show (101, D.2.2.1 4) = cond (Nat.blt 140 (126 + 3 * D.1)) (101, D.2.2.1 4) (0, 0)
          rw [hb _ (by decide)]
          rfl
        · rw [show Nat.beq i 140 = false from beq_f q]
          rfl
def gGr5 (cl sl : Nat) (D : GD) : XG := (fun i j => cond (Nat.beq i 141) (if j = 0 then some 142 else if j = 1 then some 143 else none) (gP D i j), (fun i => cond (Nat.beq i 141) (4, 0) (cond (Nat.beq i 142) (101, cl) (cond (Nat.beq i 143) (101, sl) (gS D i))), (gG D).2.2))
theorem gGr5_eq {D : GD} (h : 5 < D.1) : gGr5 (D.2.1 5) (D.2.2.1 5) D = gG D := by
  have hb : ∀ c, c < 126 + 3 * (5 + 1) → Nat.blt c (126 + 3 * D.1) = true := fun c hc => Nat.ble_eq.mpr (by omega)
  refine Prod.ext ?_ (Prod.ext ?_ rfl)
  · funext i j
    show cond (Nat.beq i 141) _ (gP D i j) = gP D i j
    by_cases q : i = 141
    · subst q
      show (if j = 0 then some 142 else if j = 1 then some 143 else none) = cond (Nat.blt 141 (126 + 3 * D.1)) (if j = 0 then some 142 else if j = 1 then some 143 else none) none
      rw [hb _ (by decide)]
      rfl
    · rw [show Nat.beq i 141 = false from beq_f q]
      rfl
  · funext i
    show cond (Nat.beq i 141) (4, 0) (cond (Nat.beq i 142) (101, D.2.1 5) (cond (Nat.beq i 143) (101, D.2.2.1 5) (gS D i))) = gS D i
    by_cases q : i = 141
    · subst q
      show (4, 0) = cond (Nat.blt 141 (126 + 3 * D.1)) (4, 0) (0, 0)
      rw [hb _ (by decide)]
      rfl
    · rw [show Nat.beq i 141 = false from beq_f q]
      by_cases q : i = 142
      · subst q
        show (101, D.2.1 5) = cond (Nat.blt 142 (126 + 3 * D.1)) (101, D.2.1 5) (0, 0)
        rw [hb _ (by decide)]
        rfl
      · rw [show Nat.beq i 142 = false from beq_f q]
        by_cases q : i = 143
        · subst q
          show (101, D.2.2.1 5) = cond (Nat.blt 143 (126 + 3 * D.1)) (101, D.2.2.1 5) (0, 0)
          rw [hb _ (by decide)]
          rfl
        · rw [show Nat.beq i 143 = false from beq_f q]
          rfl
