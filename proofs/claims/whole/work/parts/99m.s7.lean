set_option maxRecDepth 8000 in
theorem sg_164_0_r {d : Nat} {I : XI} {L : XL} {D : GD} {post : XQ}  {u1 : Int} (h : (((-2147483648 ≤ (I 101 (13 : Int)) ∧ (I 101 (13 : Int)) ≤ 2147483647) ∧ (-2147483648 ≤ (10 : Int) ∧ (10 : Int) ≤ 2147483647)) ∧ ((¬ (I 101 (13 : Int)) = (10 : Int) → ((0 ≤ (I 101 (16 : Int)) ∧ (I 101 (16 : Int)) < (400 : Int)) ∧ (((1 : Int) = 0 ∨ (1 : Int) = 1) ∧ post (some (xi (1 : Int))) (xwr (xwr (xwr I 101 (13 : Int) ((I 101 (13 : Int)) + (1 : Int))) 108 (I 101 (16 : Int)) u1) 101 (16 : Int) ((I 101 (16 : Int)) + (1 : Int))) L (gG D)))) ∧ ((I 101 (13 : Int)) = (10 : Int) → xR d 164 es_164 8 [xr (some 101), xi u1] [xi (I 101 (8 : Int)), xi (2 : Int), xr (some 101)] I L (gG D) 0 0 post)))) : xR d 164 es_164 0 [xr (some 101), xi u1] [] I L (gG D) 0 0 post := xW_R (fun k => Nat.beq k 8) 24 _ _ _ _ _ _ _ _ _ _ _ _ h
set_option maxRecDepth 8000 in
theorem sg_164_9_r {d : Nat} {I : XI} {L : XL} {D : GD} {post : XQ}  {u1 : Int} {w0 : Int} (h : ((w0 = 0 ∨ w0 = 1) ∧ post (some (xi w0)) I L (gG D))) : xR d 164 es_164 9 [xr (some 101), xi u1] [xi w0] I L (gG D) 0 0 post := xW_R (fun k => Nat.beq k 8) 1 _ _ _ _ _ _ _ _ _ _ _ _ h
set_option maxRecDepth 8000 in
theorem w_164_r {d : Nat} {I : XI} {L : XL} {D : GD} {post : XQ}   {wh : Int} (hd : 1 ≤ d) (h : (((-2147483648 ≤ (I 101 (13 : Int)) ∧ (I 101 (13 : Int)) ≤ 2147483647)) ∧ ((¬ (I 101 (13 : Int)) = (10 : Int) → (((0 ≤ (I 101 (16 : Int)) ∧ (I 101 (16 : Int)) < (400 : Int))) ∧ post (some (xi (1 : Int))) (xsc (xsc I 101 (xup (xup (I 101) (13 : Int) ((I 101 (13 : Int)) + (1 : Int))) (16 : Int) ((I 101 (16 : Int)) + (1 : Int)))) 108 (xup (I 108) (I 101 (16 : Int)) wh)) L (gG D))) ∧ ((I 101 (13 : Int)) = (10 : Int) → (I 101 (9 : Int) = 0 ∧ post (some (xi (xb (False)))) (xsc I 101 (xup (I 101) (9 : Int) (1 + 8 * (I 101 (8 : Int)) + (2 : Int)))) L (gG D)))))) : xR d 164 es_164 0 [xr (some 101), xi wh] [] I L (gG D) 0 0 post := sg_164_0_r  (⟨⟨h.1, (by decide)⟩, ⟨fun q4714 => ⟨(h.2.1 q4714).1, ⟨(by decide), (xpost (h.2.1 q4714).2 (funext fun i => (xpt rfl (fun h108_ => (xpt rfl (fun h101_ => (by simp only [xsc_ne _ _ h101_, xwr_ne _ _ _ h101_, xsc_ne _ _ h108_, xwr_ne _ _ _ h108_])))))) rfl)⟩⟩, fun q4715 => (xR_cF rfl rfl rfl (c_153 (h.2.2 q4715).1) (by omega) (sg_164_9_r  ⟨(xb_01 _), (h.2.2 q4715).2⟩))⟩⟩)
def OPP (T T2 R R2 : Int → Int) (wh : Int) : Prop := (T 13 = 10 → T2 = xup T 9 (1 + 8 * T 8 + 2) ∧ R2 = R) ∧ (¬ T 13 = 10 → T2 = xup (xup T 13 (T 13 + 1)) 16 (T 16 + 1) ∧ R2 = xup R (T 16) wh)
theorem c_164_r {I : XI} {L : XL} {D : GD}   {wh : Int} (h : (I 101 (9 : Int) = 0 ∧ (0 ≤ I 101 (13 : Int) ∧ I 101 (13 : Int) ≤ 10) ∧ (0 ≤ I 101 (16 : Int) ∧ I 101 (16 : Int) < 400) ∧ (0 ≤ I 101 (8 : Int) ∧ I 101 (8 : Int) ≤ 400))) : xM 1 164 [xr (some 101), xi wh] I L (gG D) (0, 0) (fun r2 I2 L2 G2 => ∃ (T9 : Int → Int) (R9 : Int → Int), OPP (I 101) T9 (I 108) R9 wh ∧ r2 = (some (xi (xb (¬ I 101 (13 : Int) = 10)))) ∧ I2 = (xsc (xsc I 101 T9) 108 R9) ∧ L2 = L ∧ G2 = (gG D)) := by
  intro d hd
  obtain ⟨h9, h13, h16, h8⟩ := h
  refine w_164_r (by omega) ?_
  by_cases c : I 101 13 = 10
  · rw [xb_f (fun r => r c)]
    repeat' first | (with_reducible intro _) | (with_reducible refine And.intro ?_ ?_)
    all_goals first | assumption | omega | contradiction | skip
    rw [xb_f (fun r : False => r)]
    refine ⟨_, I 108, ⟨fun _ => ⟨rfl, rfl⟩, fun r => absurd c r⟩, (by first | rfl | trivial), ?_, (by first | rfl | trivial), (by first | rfl | trivial)⟩
    exact (xsc_slf (I := xsc I 101 (xup (I 101) 9 (1 + 8 * I 101 8 + 2))) (c := 108) (f := I 108) rfl).symm
  · rw [xb_t c]
    repeat' first | (with_reducible intro _) | (with_reducible refine And.intro ?_ ?_)
    all_goals first | assumption | omega | contradiction | skip
    exact ⟨_, _, ⟨fun r => absurd r c, fun _ => ⟨rfl, rfl⟩⟩, (by first | rfl | trivial), rfl, (by first | rfl | trivial), (by first | rfl | trivial)⟩
set_option maxRecDepth 8000 in
theorem sg_165_0_r {d : Nat} {I : XI} {L : XL} {D : GD} {post : XQ}  {u0 : Int} (h : (((-2147483648 ≤ u0 ∧ u0 ≤ 2147483647) ∧ (-2147483648 ≤ (13 : Int) ∧ (13 : Int) ≤ 2147483647)) ∧ ((¬ u0 = (13 : Int) → (((-2147483648 ≤ u0 ∧ u0 ≤ 2147483647) ∧ (-2147483648 ≤ (12 : Int) ∧ (12 : Int) ≤ 2147483647)) ∧ ((¬ u0 = (12 : Int) → (((-2147483648 ≤ u0 ∧ u0 ≤ 2147483647) ∧ (-2147483648 ≤ (11 : Int) ∧ (11 : Int) ≤ 2147483647)) ∧ ((¬ u0 = (11 : Int) → post (some (xi (0 : Int))) I L (gG D)) ∧ (u0 = (11 : Int) → post (some (xi (3 : Int))) I L (gG D))))) ∧ (u0 = (12 : Int) → post (some (xi (2 : Int))) I L (gG D))))) ∧ (u0 = (13 : Int) → post (some (xi (1 : Int))) I L (gG D))))) : xR d 165 es_165 0 [xi u0] [] I L (gG D) 0 0 post := xW_R (fun k => false) 12 _ _ _ _ _ _ _ _ _ _ _ _ h
set_option maxRecDepth 8000 in
theorem w_165_r {d : Nat} {I : XI} {L : XL} {D : GD} {post : XQ}   {sv : Int} (hd : 0 ≤ d) (h : (((-2147483648 ≤ sv ∧ sv ≤ 2147483647)) ∧ ((¬ sv = (13 : Int) → (((¬ sv = (12 : Int) → (((¬ sv = (11 : Int) → post (some (xi (0 : Int))) I L (gG D)) ∧ (sv = (11 : Int) → post (some (xi (3 : Int))) I L (gG D))))) ∧ (sv = (12 : Int) → post (some (xi (2 : Int))) I L (gG D))))) ∧ (sv = (13 : Int) → post (some (xi (1 : Int))) I L (gG D))))) : xR d 165 es_165 0 [xi sv] [] I L (gG D) 0 0 post := sg_165_0_r  (⟨⟨h.1, (by decide)⟩, ⟨fun q4720 => ⟨⟨h.1, (by decide)⟩, ⟨fun q4718 => ⟨⟨h.1, (by decide)⟩, ⟨fun q4716 => (((h.2.1 q4720).1 q4718).1 q4716), fun q4717 => (((h.2.1 q4720).1 q4718).2 q4717)⟩⟩, fun q4719 => ((h.2.1 q4720).2 q4719)⟩⟩, fun q4721 => (h.2.2 q4721)⟩⟩)
theorem c_165_r {I : XI} {L : XL} {D : GD}   {sv : Int} (h : (-2147483648 ≤ sv ∧ sv ≤ 2147483647)) : xM 0 165 [xi sv] I L (gG D) (0, 0) (xD (some (xi (sth sv))) I L (gG D)) := by
  intro d hd
  refine w_165_r (by omega) ?_
  unfold sth
  repeat' first | (with_reducible intro _) | (with_reducible refine And.intro ?_ ?_)
  all_goals first | omega | skip
  all_goals first
    | (refine xD_eq ?_ rfl rfl; (repeat' split) <;> first | rfl | omega)
set_option maxRecDepth 8000 in
theorem sg_166_0_r {d : Nat} {I : XI} {L : XL} {D : GD} {post : XQ}  {u1 : Int} (h : ((-2147483648 ≤ (I 101 (16 : Int)) ∧ (I 101 (16 : Int)) ≤ 2147483647) ∧ (((I 101 (16 : Int)) ≤ 0 → post none I L (gG D)) ∧ (0 < (I 101 (16 : Int)) → ((0 ≤ ((I 101 (16 : Int)) - (1 : Int)) ∧ ((I 101 (16 : Int)) - (1 : Int)) < (400 : Int)) ∧ xR d 166 es_166 10 [xr (some 101), xi u1] [xi (I 108 ((I 101 (16 : Int)) - (1 : Int)))] I L (gG D) 0 0 post))))) : xR d 166 es_166 0 [xr (some 101), xi u1] [] I L (gG D) 0 0 post := xW_R (fun k => Nat.beq k 0 || Nat.beq k 10 || Nat.beq k 26) 10 _ _ _ _ _ _ _ _ _ _ _ _ h
set_option maxRecDepth 8000 in
theorem sg_166_11_r {d : Nat} {I : XI} {L : XL} {D : GD} {post : XQ}  {u1 : Int} {w0 : Int} (h : (((-2147483648 ≤ w0 ∧ w0 ≤ 2147483647) ∧ (-2147483648 ≤ u1 ∧ u1 ≤ 2147483647)) ∧ ((w0 < u1 → post none I L (gG D)) ∧ (u1 ≤ w0 → ((0 ≤ ((I 101 (16 : Int)) - (1 : Int)) ∧ ((I 101 (16 : Int)) - (1 : Int)) < (400 : Int)) ∧ xR d 166 es_166 26 [xr (some 101), xi u1] [xi (0 : Int), xi (I 108 ((I 101 (16 : Int)) - (1 : Int))), xr (some 101)] (xwr I 101 (16 : Int) ((I 101 (16 : Int)) - (1 : Int))) L (gG D) 0 0 post))))) : xR d 166 es_166 11 [xr (some 101), xi u1] [xi w0] I L (gG D) 0 0 post := xW_R (fun k => Nat.beq k 0 || Nat.beq k 10 || Nat.beq k 26) 15 _ _ _ _ _ _ _ _ _ _ _ _ h
set_option maxRecDepth 8000 in
theorem sg_166_27_r {d : Nat} {I : XI} {L : XL} {D : GD} {post : XQ}  {u1 : Int} (h : ((0 ≤ (I 101 (16 : Int)) ∧ (I 101 (16 : Int)) < (400 : Int)) ∧ (((-2147483648 ≤ (I 108 (I 101 (16 : Int))) ∧ (I 108 (I 101 (16 : Int))) ≤ 2147483647) ∧ (-2147483648 ≤ (11 : Int) ∧ (11 : Int) ≤ 2147483647)) ∧ ((¬ (I 108 (I 101 (16 : Int))) = (11 : Int) → xR d 166 es_166 0 [xr (some 101), xi u1] [] I L (gG D) 0 0 post) ∧ ((I 108 (I 101 (16 : Int))) = (11 : Int) → xR d 166 es_166 0 [xr (some 101), xi u1] [] (xwr I 101 (13 : Int) ((I 101 (13 : Int)) - (1 : Int))) L (gG D) 0 0 post))))) : xR d 166 es_166 27 [xr (some 101), xi u1] [] I L (gG D) 0 0 post := xW_R (fun k => Nat.beq k 0 || Nat.beq k 10 || Nat.beq k 26) 14 _ _ _ _ _ _ _ _ _ _ _ _ h
set_option maxRecDepth 8000 in
theorem b_166_r {d : Nat} {I : XI} {L : XL} {D : GD} {post : XQ} {T1 g1 l1 : Int → Int}  {lst : Int} (hd : 1 ≤ d) (h : (((-2147483648 ≤ (T1 (16 : Int)) ∧ (T1 (16 : Int)) ≤ 2147483647)) ∧ (((T1 (16 : Int)) ≤ 0 → post none (xsc (xsc (xsc I 101 T1) 103 g1) 104 l1) L (gG D)) ∧ (0 < (T1 (16 : Int)) → (((0 ≤ ((T1 (16 : Int)) - (1 : Int)) ∧ ((T1 (16 : Int)) - (1 : Int)) < (400 : Int))) ∧ ((-2147483648 ≤ (I 108 ((T1 (16 : Int)) - (1 : Int))) ∧ (I 108 ((T1 (16 : Int)) - (1 : Int))) ≤ 2147483647) ∧ (((-2147483648 ≤ (sth (I 108 ((T1 (16 : Int)) - (1 : Int)))) ∧ (sth (I 108 ((T1 (16 : Int)) - (1 : Int)))) ≤ 2147483647) ∧ (-2147483648 ≤ lst ∧ lst ≤ 2147483647)) ∧ (((sth (I 108 ((T1 (16 : Int)) - (1 : Int)))) < lst → post none (xsc (xsc (xsc I 101 T1) 103 g1) 104 l1) L (gG D)) ∧ (lst ≤ (sth (I 108 ((T1 (16 : Int)) - (1 : Int)))) → (((0 ≤ T1 (11 : Int) ∧ T1 (11 : Int) < 6) ∧ (0 ≤ l1 (T1 (11 : Int)) ∧ l1 (T1 (11 : Int)) < 400)) ∧ (((¬ (I 108 ((T1 (16 : Int)) - (1 : Int))) = (11 : Int) → xR d 166 es_166 0 [xr (some 101), xi lst] [] (xsc (xsc (xsc I 101 (xup T1 (16 : Int) ((T1 (16 : Int)) - (1 : Int)))) 103 (xup g1 (400 * T1 (11 : Int) + l1 (T1 (11 : Int))) ((I 108 ((T1 (16 : Int)) - (1 : Int))) + 16 * (0 : Int)))) 104 (xup l1 (T1 (11 : Int)) (l1 (T1 (11 : Int)) + 1))) L (gG D) 0 0 post) ∧ ((I 108 ((T1 (16 : Int)) - (1 : Int))) = (11 : Int) → xR d 166 es_166 0 [xr (some 101), xi lst] [] (xsc (xsc (xsc I 101 (xup (xup T1 (13 : Int) ((T1 (13 : Int)) - (1 : Int))) (16 : Int) ((T1 (16 : Int)) - (1 : Int)))) 103 (xup g1 (400 * T1 (11 : Int) + l1 (T1 (11 : Int))) ((I 108 ((T1 (16 : Int)) - (1 : Int))) + 16 * (0 : Int)))) 104 (xup l1 (T1 (11 : Int)) (l1 (T1 (11 : Int)) + 1))) L (gG D) 0 0 post))))))))))))) : xR d 166 es_166 0 [xr (some 101), xi lst] [] (xsc (xsc (xsc I 101 T1) 103 g1) 104 l1) L (gG D) 0 0 post := sg_166_0_r  (⟨h.1, ⟨fun q4726 => (h.2.1 q4726), fun q4727 => ⟨(h.2.2 q4727).1, (xR_cF rfl rfl rfl (c_165_r (h.2.2 q4727).2.1) (by omega) (sg_166_11_r  ⟨⟨(h.2.2 q4727).2.2.1.1, (h.2.2 q4727).2.2.1.2⟩, ⟨fun q4724 => ((h.2.2 q4727).2.2.2.1 q4724), fun q4725 => ⟨(h.2.2 q4727).1, (xR_cF rfl rfl rfl (c_162_r ((h.2.2 q4727).2.2.2.2 q4725).1) (by omega) (sg_166_27_r  ⟨(h.2.2 q4727).1, ⟨⟨(h.2.2 q4727).2.1, (by decide)⟩, ⟨fun q4722 => (xR_memc (((h.2.2 q4727).2.2.2.2 q4725).2.1 q4722) (funext fun i => (xpt rfl (fun h104_ => (xpt rfl (fun h103_ => (xpt rfl (fun h101_ => (by simp only [xsc_ne _ _ h101_, xwr_ne _ _ _ h101_, xsc_ne _ _ h103_, xwr_ne _ _ _ h103_, xsc_ne _ _ h104_, xwr_ne _ _ _ h104_])))))))) rfl), fun q4723 => (xR_memc (((h.2.2 q4727).2.2.2.2 q4725).2.2 q4723) (funext fun i => (xpt rfl (fun h104_ => (xpt rfl (fun h103_ => (xpt (show (xup (xup T1 (16 : Int) ((T1 (16 : Int)) - (1 : Int))) (13 : Int) ((T1 (13 : Int)) - (1 : Int))) = (xup (xup T1 (13 : Int) ((T1 (13 : Int)) - (1 : Int))) (16 : Int) ((T1 (16 : Int)) - (1 : Int))) from by funext j; by_cases hj13 : j = 13; (subst hj13; rfl); by_cases hj16 : j = 16; (subst hj16; rfl); simp only [xup, if_neg hj13, if_neg hj16]) (fun h101_ => (by simp only [xsc_ne _ _ h101_, xwr_ne _ _ _ h101_, xsc_ne _ _ h103_, xwr_ne _ _ _ h103_, xsc_ne _ _ h104_, xwr_ne _ _ _ h104_])))))))) rfl)⟩⟩⟩))⟩⟩⟩))⟩⟩⟩)
theorem wfs_mem : ∀ (O : List Int) (j : Nat), wfs O j → ∀ x ∈ O, x = 11 ∨ x = 12 ∨ x = 13 ∨ x = 91 := by
  intro O
  induction O with
  | nil => intro j _ x hx; cases hx
  | cons y r ih =>
    intro j h x hx
    have hy : (y = 11 ∨ y = 12 ∨ y = 13 ∨ y = 91) ∧ ∃ i, wfs r i := by
      unfold wfs at h
      by_cases c1 : y = 91
      · rw [if_pos c1] at h; exact ⟨by omega, _, h⟩
      · rw [if_neg c1] at h
        by_cases c2 : y = 13
        · rw [if_pos c2] at h; exact ⟨by omega, _, h.2⟩
        · rw [if_neg c2] at h
          by_cases c3 : y = 12
          · rw [if_pos c3] at h; exact ⟨by omega, _, h.2⟩
          · rw [if_neg c3] at h; exact ⟨by omega, _, h.2.2⟩
    rcases List.mem_cons.mp hx with rfl | hx
    · exact hy.1
    · obtain ⟨i, hi⟩ := hy.2; exact ih i hi x hx
theorem olist_mem {R : Int → Int} : ∀ (n : Nat) (j : Int), 0 ≤ j → j < (n : Int) → R j ∈ olist R n := by
  intro n
  induction n with
  | zero => intro j h0 h1; omega
  | succ n ih =>
    intro j h0 h1
    by_cases c : j = (n : Int)
    · subst c; exact List.mem_cons_self
    · exact List.mem_cons_of_mem _ (ih j h0 (by omega))
theorem RT.el {b T l R : Int → Int} (h : RT b T l R) {j : Int} (h0 : 0 ≤ j) (h1 : j < T 16) : R j = 11 ∨ R j = 12 ∨ R j = 13 ∨ R j = 91 := wfs_mem _ _ h.2.2.2.1 _ (olist_mem _ j h0 (by omega))
theorem ins9_iff {R : Int → Int} : ∀ n : Nat, ins9 (olist R n) = true ↔ ∃ j : Int, 0 ≤ j ∧ j < (n : Int) ∧ R j = 91 := by
  intro n
  induction n with
  | zero => exact ⟨fun r => absurd (show (false : Bool) = true from r) (by decide), fun ⟨j, h0, h1, _⟩ => by omega⟩
  | succ n ih =>
    show (decide (R (n : Int) = 91) || ins9 (olist R n)) = true ↔ _
    rw [Bool.or_eq_true, decide_eq_true_eq, ih]
    constructor
    · rintro (h | ⟨j, h0, h1, h2⟩)
      · exact ⟨(n : Int), by omega, by omega, h⟩
      · exact ⟨j, h0, by omega, h2⟩
    · rintro ⟨j, h0, h1, h2⟩
      by_cases c : j = (n : Int)
      · subst c; exact Or.inl h2
      · exact Or.inr ⟨j, h0, by omega, h2⟩
theorem sth_rg (x : Int) : 0 ≤ sth x ∧ sth x ≤ 3 := by unfold sth; (repeat' split) <;> omega
theorem lp_166 {I : XI} {L : XL} {D : GD} {d : Nat} {lst : Int} (hd : 1 ≤ d) (hl : 1 ≤ lst ∧ lst ≤ 3) : ∀ (n : Nat) {post : XQ} (T1 g1 l1 : Int → Int), (T1 16).toNat ≤ n → RT (I 102) T1 l1 (I 108) → (∀ T9 g9 l9 : Int → Int, STP lst (I 102) (I 108) T1 T9 g1 g9 l1 l9 → post none (xsc (xsc (xsc I 101 T9) 103 g9) 104 l9) L (gG D)) → xR d 166 es_166 0 [xr (some 101), xi lst] [] (xsc (xsc (xsc I 101 T1) 103 g1) 104 l1) L (gG D) 0 0 post := by
  intro n
  induction n with
  | zero =>
    intro post T1 g1 l1 hn h hpo
    have h16 : 0 ≤ T1 16 ∧ _ := h.2.2.2.2
    refine b_166_r (by omega) ?_
    exact ⟨⟨by omega, by omega⟩, fun _ => hpo _ _ _ (STP.nil h (Or.inl (by omega))), fun r => by omega⟩
  | succ n ih =>
    intro post T1 g1 l1 hn h hpo
    have h16 : 0 ≤ T1 16 ∧ _ := h.2.2.2.2
    have h8 := h.1.2.1
    have h1 := h.1.1.1
    have hlg := h.1.2.2.2.2.2.1
    refine b_166_r (by omega) ?_
    refine ⟨⟨by omega, by omega⟩, fun _ => hpo _ _ _ (STP.nil h (Or.inl (by omega))), fun r => ?_⟩
    have hel := h.el (j := T1 16 - 1) (by omega) (by omega)
    have hsr := sth_rg (I 108 (T1 16 - 1))
    refine ⟨⟨by omega, by omega⟩, ⟨by omega, by omega⟩, ⟨⟨by omega, by omega⟩, ⟨by omega, by omega⟩⟩, fun r2 => hpo _ _ _ (STP.nil h (Or.inr (by omega))), fun r2 => ?_⟩
    have hmA : ¬ I 108 (T1 16 - 1) = 11 → MV T1 (xup T1 16 (T1 16 - 1)) (T1 8) (if I 108 (T1 16 - 1) = 11 then T1 13 - 1 else T1 13) (T1 16 - 1) := fun c => ⟨rfl, by rw [if_neg c]; rfl, rfl, fun j hj => by rw [xup_ne _ _ (by omega)]⟩
    have hmB : I 108 (T1 16 - 1) = 11 → MV T1 (xup (xup T1 13 (T1 13 - 1)) 16 (T1 16 - 1)) (T1 8) (if I 108 (T1 16 - 1) = 11 then T1 13 - 1 else T1 13) (T1 16 - 1) := fun c => ⟨rfl, by rw [if_pos c]; rfl, rfl, fun j hj => by rw [xup_ne _ _ (by omega), xup_ne _ _ (by omega)]⟩
    by_cases c : I 108 (T1 16 - 1) = 11
    · have hz := STP.pre h r r2 (hmB c) hl.1
      refine ⟨hz.1, fun r3 => absurd c r3, fun _ => ?_⟩
      exact ih _ _ _ (by show (T1 16 - 1).toNat ≤ n; omega) hz.2 (fun T9 g9 l9 hs => hpo _ _ _ (STP.cons h r r2 (hmB c) hl.1 hs))
    · have hz := STP.pre h r r2 (hmA c) hl.1
      refine ⟨hz.1, fun _ => ?_, fun r3 => absurd r3 c⟩
      exact ih _ _ _ (by show (T1 16 - 1).toNat ≤ n; omega) hz.2 (fun T9 g9 l9 hs => hpo _ _ _ (STP.cons h r r2 (hmA c) hl.1 hs))
theorem c_166_r {I : XI} {L : XL} {D : GD}   {lst : Int} (h : (RT (I 102) (I 101) (I 104) (I 108) ∧ (1 ≤ lst ∧ lst ≤ 3))) : xM 1 166 [xr (some 101), xi lst] I L (gG D) (0, 0) (fun r2 I2 L2 G2 => ∃ (T9 : Int → Int) (g9 : Int → Int) (l9 : Int → Int), STP lst (I 102) (I 108) (I 101) T9 (I 103) g9 (I 104) l9 ∧ r2 = none ∧ I2 = (xsc (xsc (xsc I 101 T9) 103 g9) 104 l9) ∧ L2 = L ∧ G2 = (gG D)) := by
  intro d hd
  exact xR_memc (lp_166 hd h.2 _ (I 101) (I 103) (I 104) (Nat.le_refl _) h.1 (fun _ _ _ hz => ⟨_, _, _, hz, rfl, rfl, rfl, rfl⟩)) (by (funext i; by_cases h101 : i = 101; (subst h101; first | rfl | exact (xcp_zero _ _ _ _).symm | exact (xup_self _ _).symm | exact (xup_self2 _ _ _).symm | exact (xup_self3 _ _ _ _).symm | exact xup_self _ _); by_cases h103 : i = 103; (subst h103; first | rfl | exact (xcp_zero _ _ _ _).symm | exact (xup_self _ _).symm | exact (xup_self2 _ _ _).symm | exact (xup_self3 _ _ _ _).symm | exact xup_self _ _); by_cases h104 : i = 104; (subst h104; first | rfl | exact (xcp_zero _ _ _ _).symm | exact (xup_self _ _).symm | exact (xup_self2 _ _ _).symm | exact (xup_self3 _ _ _ _).symm | exact xup_self _ _); first | rfl | simp only [xsc_ne _ _ h101, xsc_ne _ _ h103, xsc_ne _ _ h104])) rfl
set_option maxRecDepth 8000 in
theorem sg_172_0_r {d : Nat} {I : XI} {L : XL} {D : GD} {post : XQ}   (h : xR d 172 es_172 2 [xr (some 101), xi (0 : Int)] [] I L (gG D) 0 0 post) : xR d 172 es_172 0 [xr (some 101), xt 0] [] I L (gG D) 0 0 post := xW_R (fun k => Nat.beq k 2) 2 _ _ _ _ _ _ _ _ _ _ _ _ h
set_option maxRecDepth 8000 in
theorem w_172_r {d : Nat} {I : XI} {L : XL} {D : GD} {post : XQ}    (hd : 0 ≤ d) (h : xR d 172 es_172 2 [xr (some 101), xi (0 : Int)] [] I L (gG D) 0 0 post) : xR d 172 es_172 0 [xr (some 101), xt 0] [] I L (gG D) 0 0 post := sg_172_0_r  (h)
set_option maxRecDepth 8000 in
theorem sg_172_2_r {d : Nat} {I : XI} {L : XL} {D : GD} {post : XQ}  {u1 : Int} (h : (((-2147483648 ≤ u1 ∧ u1 ≤ 2147483647) ∧ (-2147483648 ≤ (I 101 (16 : Int)) ∧ (I 101 (16 : Int)) ≤ 2147483647)) ∧ (((I 101 (16 : Int)) ≤ u1 → (((0 : Int) = 0 ∨ (0 : Int) = 1) ∧ post (some (xi (0 : Int))) I L (gG D))) ∧ (u1 < (I 101 (16 : Int)) → ((0 ≤ u1 ∧ u1 < (400 : Int)) ∧ (((-2147483648 ≤ (I 108 u1) ∧ (I 108 u1) ≤ 2147483647) ∧ (-2147483648 ≤ (91 : Int) ∧ (91 : Int) ≤ 2147483647)) ∧ ((¬ (I 108 u1) = (91 : Int) → xR d 172 es_172 2 [xr (some 101), xi (u1 + (1 : Int))] [] I L (gG D) 0 0 post) ∧ ((I 108 u1) = (91 : Int) → (((1 : Int) = 0 ∨ (1 : Int) = 1) ∧ post (some (xi (1 : Int))) I L (gG D)))))))))) : xR d 172 es_172 2 [xr (some 101), xi u1] [] I L (gG D) 0 0 post := xW_R (fun k => Nat.beq k 2) 12 _ _ _ _ _ _ _ _ _ _ _ _ h
set_option maxRecDepth 8000 in
theorem b_172_r {d : Nat} {I : XI} {L : XL} {D : GD} {post : XQ}   {kq : Int} (hd : 0 ≤ d) (h : (((-2147483648 ≤ kq ∧ kq ≤ 2147483647) ∧ (-2147483648 ≤ (I 101 (16 : Int)) ∧ (I 101 (16 : Int)) ≤ 2147483647)) ∧ (((I 101 (16 : Int)) ≤ kq → post (some (xi (0 : Int))) I L (gG D)) ∧ (kq < (I 101 (16 : Int)) → (((0 ≤ kq ∧ kq < (400 : Int))) ∧ (((-2147483648 ≤ (I 108 kq) ∧ (I 108 kq) ≤ 2147483647)) ∧ ((¬ (I 108 kq) = (91 : Int) → xR d 172 es_172 2 [xr (some 101), xi (kq + (1 : Int))] [] I L (gG D) 0 0 post) ∧ ((I 108 kq) = (91 : Int) → post (some (xi (1 : Int))) I L (gG D))))))))) : xR d 172 es_172 2 [xr (some 101), xi kq] [] I L (gG D) 0 0 post := sg_172_2_r  (⟨⟨h.1.1, h.1.2⟩, ⟨fun q4730 => ⟨(by decide), (h.2.1 q4730)⟩, fun q4731 => ⟨(h.2.2 q4731).1, ⟨⟨(h.2.2 q4731).2.1, (by decide)⟩, ⟨fun q4728 => ((h.2.2 q4731).2.2.1 q4728), fun q4729 => ⟨(by decide), ((h.2.2 q4731).2.2.2 q4729)⟩⟩⟩⟩⟩⟩)
theorem c_172_r {I : XI} {L : XL} {D : GD}    (h : RT (I 102) (I 101) (I 104) (I 108)) : xM 0 172 [xr (some 101)] I L (gG D) (0, 0) (xD (some (xi (xb (ins9 (OL (I 108) (I 101)) = true)))) I L (gG D)) := by
  intro d hd
  have h16 : 0 ≤ I 101 16 ∧ _ := h.2.2.2.2
  have h8 := h.1.2.1
  have h1 := h.1.1.1
  have hlg := h.1.2.2.2.2.2.1
  have hi : ins9 (OL (I 108) (I 101)) = true ↔ _ := ins9_iff (R := I 108) (I 101 16).toNat
  refine w_172_r (by omega) ?_
  have key : ∀ (r : Nat) (kq : Int), (I 101 16 - kq).toNat = r → 0 ≤ kq → kq ≤ I 101 16 → (∀ j, 0 ≤ j → j < kq → ¬ I 108 j = 91) → xR d 172 es_172 2 [xr (some 101), xi kq] [] I L (gG D) 0 0 (xD (some (xi (xb (ins9 (OL (I 108) (I 101)) = true)))) I L (gG D)) := by
    intro r
    induction r with
    | zero =>
      intro kq hr h0 hle hj
      refine b_172_r (by omega) ?_
      refine ⟨⟨⟨by omega, by omega⟩, ⟨by omega, by omega⟩⟩, fun _ => ?_, fun r => by omega⟩
      rw [xb_f (fun r => by obtain ⟨j, a1, a2, a3⟩ := hi.mp r; exact hj j a1 (by omega) a3)]
      exact xD_in
    | succ r ih =>
      intro kq hr h0 hle hj
      have hel := h.el (j := kq) h0 (by omega)
      refine b_172_r (by omega) ?_
      refine ⟨⟨⟨by omega, by omega⟩, ⟨by omega, by omega⟩⟩, fun r => by omega, fun _ => ⟨⟨by omega, by omega⟩, ⟨by omega, by omega⟩, fun c => ?_, fun c => ?_⟩⟩
      · refine ih (kq + 1) (by omega) (by omega) (by omega) (fun j a1 a2 => ?_)
        by_cases cj : j = kq
        · rw [cj]; exact c
        · exact hj j a1 (by omega)
      · rw [xb_t (hi.mpr ⟨kq, h0, by omega, c⟩)]
        exact xD_in
  exact key _ 0 rfl (Int.le_refl _) h16.1 (fun j a1 a2 => by omega)
