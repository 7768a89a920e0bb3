/-! game: the reference -/
def giw (X B f t0 k wo : Int) : Int × Int × Int := if X = 0 ∨ (k % 2 = 0 ∧ B < wo) ∨ (¬ k % 2 = 0 ∧ wo < B) then (1, wo, if k = 0 then t0 else f) else (X, B, f)
theorem xup_self1 (f : Int → Int) (j : Int) : xup f j (f j) = f := xup_self f j
def pnx (a : Int → Int) : Nat → Int → Int
  | 0, s => s
  | r + 1, s => if s < a 3 ∧ 0 ≤ a (11 + s) then pnx a r (s + 1) else s
theorem pnx_rg (a : Int → Int) : ∀ (r : Nat) (s : Int), s ≤ pnx a r s ∧ pnx a r s ≤ s + (r : Int) := by
  intro r
  induction r with
  | zero => intro s; show s ≤ s ∧ s ≤ s + 0; omega
  | succ r ih =>
    intro s
    unfold pnx
    have := ih (s + 1)
    split <;> omega
theorem pnx_pos {a : Int → Int} {r : Nat} {s : Int} (h : s < a 3 ∧ 0 ≤ a (11 + s)) : pnx a (r + 1) s = pnx a r (s + 1) := by
  rw [pnx, if_pos h]
theorem pnx_neg {a : Int → Int} {r : Nat} {s : Int} (h : ¬ (s < a 3 ∧ 0 ≤ a (11 + s))) : pnx a r s = s := by
  cases r with
  | zero => rfl
  | succ r => rw [pnx, if_neg h]
set_option maxRecDepth 8000 in
theorem sg_242_0 {d : Nat} {I : XI} {L : XL} {D : GD} {post : XQ}  {u1 : Int} {u2 : Int} (h : ((0 ≤ u1 ∧ u1 < (5 : Int)) ∧ ((-2147483648 ≤ (I 119 u1) ∧ (I 119 u1) ≤ 2147483647) ∧ (((I 119 u1) = 0 → ((-2147483648 ≤ (1 : Int) ∧ (1 : Int) ≤ 2147483647) ∧ ((¬ (1 : Int) = 0 → ((0 ≤ u1 ∧ u1 < (5 : Int) ∧ ((1 : Int) = 0 ∨ (1 : Int) = 1)) ∧ ((0 ≤ u1 ∧ u1 < (5 : Int)) ∧ ((-2147483648 ≤ u1 ∧ u1 ≤ 2147483647) ∧ ((¬ u1 = 0 → post none (xwr (xwr I 119 u1 (1 : Int)) 118 u1 u2) L (gG D)) ∧ (u1 = 0 → ((0 ≤ (0 : Int) ∧ (0 : Int) < (5 : Int)) ∧ post none (xwr (xwr (xwr I 119 u1 (1 : Int)) 118 u1 u2) 101 (35 : Int) (I 117 (0 : Int))) L (gG D)))))))) ∧ ((1 : Int) = 0 → post none I L (gG D))))) ∧ (¬ (I 119 u1) = 0 → (((-2147483648 ≤ u1 ∧ u1 ≤ 2147483647) ∧ (-2147483648 ≤ (2 : Int) ∧ (2 : Int) ≤ 2147483647) ∧ ¬ (2 : Int) = 0) ∧ ((-2147483648 ≤ (Int.tmod u1 (2 : Int)) ∧ (Int.tmod u1 (2 : Int)) ≤ 2147483647) ∧ ((¬ (Int.tmod u1 (2 : Int)) = 0 → ((0 ≤ u1 ∧ u1 < (5 : Int)) ∧ (((-2147483648 ≤ u2 ∧ u2 ≤ 2147483647) ∧ (-2147483648 ≤ (I 118 u1) ∧ (I 118 u1) ≤ 2147483647)) ∧ (((I 118 u1) ≤ u2 → ((-2147483648 ≤ (0 : Int) ∧ (0 : Int) ≤ 2147483647) ∧ ((¬ (0 : Int) = 0 → ((0 ≤ u1 ∧ u1 < (5 : Int) ∧ ((1 : Int) = 0 ∨ (1 : Int) = 1)) ∧ ((0 ≤ u1 ∧ u1 < (5 : Int)) ∧ ((-2147483648 ≤ u1 ∧ u1 ≤ 2147483647) ∧ ((¬ u1 = 0 → post none (xwr (xwr I 119 u1 (1 : Int)) 118 u1 u2) L (gG D)) ∧ (u1 = 0 → ((0 ≤ (0 : Int) ∧ (0 : Int) < (5 : Int)) ∧ post none (xwr (xwr (xwr I 119 u1 (1 : Int)) 118 u1 u2) 101 (35 : Int) (I 117 (0 : Int))) L (gG D)))))))) ∧ ((0 : Int) = 0 → post none I L (gG D))))) ∧ (u2 < (I 118 u1) → ((-2147483648 ≤ (1 : Int) ∧ (1 : Int) ≤ 2147483647) ∧ ((¬ (1 : Int) = 0 → ((0 ≤ u1 ∧ u1 < (5 : Int) ∧ ((1 : Int) = 0 ∨ (1 : Int) = 1)) ∧ ((0 ≤ u1 ∧ u1 < (5 : Int)) ∧ ((-2147483648 ≤ u1 ∧ u1 ≤ 2147483647) ∧ ((¬ u1 = 0 → post none (xwr (xwr I 119 u1 (1 : Int)) 118 u1 u2) L (gG D)) ∧ (u1 = 0 → ((0 ≤ (0 : Int) ∧ (0 : Int) < (5 : Int)) ∧ post none (xwr (xwr (xwr I 119 u1 (1 : Int)) 118 u1 u2) 101 (35 : Int) (I 117 (0 : Int))) L (gG D)))))))) ∧ ((1 : Int) = 0 → post none I L (gG D))))))))) ∧ ((Int.tmod u1 (2 : Int)) = 0 → ((0 ≤ u1 ∧ u1 < (5 : Int)) ∧ (((-2147483648 ≤ u2 ∧ u2 ≤ 2147483647) ∧ (-2147483648 ≤ (I 118 u1) ∧ (I 118 u1) ≤ 2147483647)) ∧ ((u2 ≤ (I 118 u1) → ((-2147483648 ≤ (0 : Int) ∧ (0 : Int) ≤ 2147483647) ∧ ((¬ (0 : Int) = 0 → ((0 ≤ u1 ∧ u1 < (5 : Int) ∧ ((1 : Int) = 0 ∨ (1 : Int) = 1)) ∧ ((0 ≤ u1 ∧ u1 < (5 : Int)) ∧ ((-2147483648 ≤ u1 ∧ u1 ≤ 2147483647) ∧ ((¬ u1 = 0 → post none (xwr (xwr I 119 u1 (1 : Int)) 118 u1 u2) L (gG D)) ∧ (u1 = 0 → ((0 ≤ (0 : Int) ∧ (0 : Int) < (5 : Int)) ∧ post none (xwr (xwr (xwr I 119 u1 (1 : Int)) 118 u1 u2) 101 (35 : Int) (I 117 (0 : Int))) L (gG D)))))))) ∧ ((0 : Int) = 0 → post none I L (gG D))))) ∧ ((I 118 u1) < u2 → ((-2147483648 ≤ (1 : Int) ∧ (1 : Int) ≤ 2147483647) ∧ ((¬ (1 : Int) = 0 → ((0 ≤ u1 ∧ u1 < (5 : Int) ∧ ((1 : Int) = 0 ∨ (1 : Int) = 1)) ∧ ((0 ≤ u1 ∧ u1 < (5 : Int)) ∧ ((-2147483648 ≤ u1 ∧ u1 ≤ 2147483647) ∧ ((¬ u1 = 0 → post none (xwr (xwr I 119 u1 (1 : Int)) 118 u1 u2) L (gG D)) ∧ (u1 = 0 → ((0 ≤ (0 : Int) ∧ (0 : Int) < (5 : Int)) ∧ post none (xwr (xwr (xwr I 119 u1 (1 : Int)) 118 u1 u2) 101 (35 : Int) (I 117 (0 : Int))) L (gG D)))))))) ∧ ((1 : Int) = 0 → post none I L (gG D))))))))))))))))) : xR d 242 es_242 0 [xr (some 101), xi u1, xi u2, xt 0] [] I L (gG D) 0 0 post := xW_R (fun k => false) 40 _ _ _ _ _ _ _ _ _ _ _ _ h
set_option maxRecDepth 8000 in
theorem w_242 {d : Nat} {I : XI} {L : XL} {D : GD} {post : XQ}   {kq : Int} {wo : Int} (hd : 0 ≤ d) (h : (((0 ≤ kq ∧ kq < (5 : Int))) ∧ (((-2147483648 ≤ (I 119 kq) ∧ (I 119 kq) ≤ 2147483647)) ∧ (((I 119 kq) = 0 → ((0 ≤ kq ∧ kq < (5 : Int)) ∧ (((-2147483648 ≤ kq ∧ kq ≤ 2147483647)) ∧ ((¬ kq = 0 → post none (xsc (xsc I 118 (xup (I 118) kq wo)) 119 (xup (I 119) kq (1 : Int))) L (gG D)) ∧ (kq = 0 → post none (xsc (xsc (xsc I 101 (xup (I 101) (35 : Int) (I 117 (0 : Int)))) 118 (xup (I 118) kq wo)) 119 (xup (I 119) kq (1 : Int))) L (gG D)))))) ∧ (¬ (I 119 kq) = 0 → (((-2147483648 ≤ kq ∧ kq ≤ 2147483647)) ∧ (((-2147483648 ≤ (Int.tmod kq (2 : Int)) ∧ (Int.tmod kq (2 : Int)) ≤ 2147483647)) ∧ ((¬ (Int.tmod kq (2 : Int)) = 0 → (((-2147483648 ≤ wo ∧ wo ≤ 2147483647) ∧ (-2147483648 ≤ (I 118 kq) ∧ (I 118 kq) ≤ 2147483647)) ∧ (((I 118 kq) ≤ wo → post none I L (gG D)) ∧ (wo < (I 118 kq) → ((0 ≤ kq ∧ kq < (5 : Int)) ∧ (((¬ kq = 0 → post none (xsc (xsc I 118 (xup (I 118) kq wo)) 119 (xup (I 119) kq (1 : Int))) L (gG D)) ∧ (kq = 0 → post none (xsc (xsc (xsc I 101 (xup (I 101) (35 : Int) (I 117 (0 : Int)))) 118 (xup (I 118) kq wo)) 119 (xup (I 119) kq (1 : Int))) L (gG D))))))))) ∧ ((Int.tmod kq (2 : Int)) = 0 → (((-2147483648 ≤ wo ∧ wo ≤ 2147483647) ∧ (-2147483648 ≤ (I 118 kq) ∧ (I 118 kq) ≤ 2147483647)) ∧ ((wo ≤ (I 118 kq) → post none I L (gG D)) ∧ ((I 118 kq) < wo → ((0 ≤ kq ∧ kq < (5 : Int)) ∧ (((¬ kq = 0 → post none (xsc (xsc I 118 (xup (I 118) kq wo)) 119 (xup (I 119) kq (1 : Int))) L (gG D)) ∧ (kq = 0 → post none (xsc (xsc (xsc I 101 (xup (I 101) (35 : Int) (I 117 (0 : Int)))) 118 (xup (I 118) kq wo)) 119 (xup (I 119) kq (1 : Int))) L (gG D))))))))))))))))) : xR d 242 es_242 0 [xr (some 101), xi kq, xi wo, xt 0] [] I L (gG D) 0 0 post := sg_242_0  (⟨h.1, ⟨h.2.1, ⟨fun q2814 => ⟨(by decide), ⟨fun _ => ⟨⟨(h.2.2.1 q2814).1.1, (h.2.2.1 q2814).1.2, (by decide)⟩, ⟨h.1, ⟨(h.2.2.1 q2814).2.1, ⟨fun q2797 => (xpost ((h.2.2.1 q2814).2.2.1 q2797) (funext fun i => (xpt rfl (fun h119_ => (xpt rfl (fun h118_ => (by simp only [xsc_ne _ _ h118_, xwr_ne _ _ _ h118_, xsc_ne _ _ h119_, xwr_ne _ _ _ h119_])))))) rfl), fun q2798 => ⟨(by decide), (xpost ((h.2.2.1 q2814).2.2.2 q2798) (funext fun i => (xpt rfl (fun h119_ => (xpt rfl (fun h118_ => (xpt rfl (fun h101_ => (by simp only [xsc_ne _ _ h101_, xwr_ne _ _ _ h101_, xsc_ne _ _ h118_, xwr_ne _ _ _ h118_, xsc_ne _ _ h119_, xwr_ne _ _ _ h119_])))))))) rfl)⟩⟩⟩⟩⟩, fun q2799 => absurd q2799 (by decide)⟩⟩, fun q2815 => ⟨⟨(h.2.2.2 q2815).1, (by decide), (by decide)⟩, ⟨(h.2.2.2 q2815).2.1, ⟨fun q2812 => ⟨h.1, ⟨⟨((h.2.2.2 q2815).2.2.1 q2812).1.1, ((h.2.2.2 q2815).2.2.1 q2812).1.2⟩, ⟨fun q2804 => ⟨(by decide), ⟨fun q2800 => absurd q2800 (by decide), fun _ => (((h.2.2.2 q2815).2.2.1 q2812).2.1 q2804)⟩⟩, fun q2805 => ⟨(by decide), ⟨fun _ => ⟨⟨(((h.2.2.2 q2815).2.2.1 q2812).2.2 q2805).1.1, (((h.2.2.2 q2815).2.2.1 q2812).2.2 q2805).1.2, (by decide)⟩, ⟨h.1, ⟨(h.2.2.2 q2815).1, ⟨fun q2801 => (xpost ((((h.2.2.2 q2815).2.2.1 q2812).2.2 q2805).2.1 q2801) (funext fun i => (xpt rfl (fun h119_ => (xpt rfl (fun h118_ => (by simp only [xsc_ne _ _ h118_, xwr_ne _ _ _ h118_, xsc_ne _ _ h119_, xwr_ne _ _ _ h119_])))))) rfl), fun q2802 => ⟨(by decide), (xpost ((((h.2.2.2 q2815).2.2.1 q2812).2.2 q2805).2.2 q2802) (funext fun i => (xpt rfl (fun h119_ => (xpt rfl (fun h118_ => (xpt rfl (fun h101_ => (by simp only [xsc_ne _ _ h101_, xwr_ne _ _ _ h101_, xsc_ne _ _ h118_, xwr_ne _ _ _ h118_, xsc_ne _ _ h119_, xwr_ne _ _ _ h119_])))))))) rfl)⟩⟩⟩⟩⟩, fun q2803 => absurd q2803 (by decide)⟩⟩⟩⟩⟩, fun q2813 => ⟨h.1, ⟨⟨((h.2.2.2 q2815).2.2.2 q2813).1.1, ((h.2.2.2 q2815).2.2.2 q2813).1.2⟩, ⟨fun q2810 => ⟨(by decide), ⟨fun q2806 => absurd q2806 (by decide), fun _ => (((h.2.2.2 q2815).2.2.2 q2813).2.1 q2810)⟩⟩, fun q2811 => ⟨(by decide), ⟨fun _ => ⟨⟨(((h.2.2.2 q2815).2.2.2 q2813).2.2 q2811).1.1, (((h.2.2.2 q2815).2.2.2 q2813).2.2 q2811).1.2, (by decide)⟩, ⟨h.1, ⟨(h.2.2.2 q2815).1, ⟨fun q2807 => (xpost ((((h.2.2.2 q2815).2.2.2 q2813).2.2 q2811).2.1 q2807) (funext fun i => (xpt rfl (fun h119_ => (xpt rfl (fun h118_ => (by simp only [xsc_ne _ _ h118_, xwr_ne _ _ _ h118_, xsc_ne _ _ h119_, xwr_ne _ _ _ h119_])))))) rfl), fun q2808 => ⟨(by decide), (xpost ((((h.2.2.2 q2815).2.2.2 q2813).2.2 q2811).2.2 q2808) (funext fun i => (xpt rfl (fun h119_ => (xpt rfl (fun h118_ => (xpt rfl (fun h101_ => (by simp only [xsc_ne _ _ h101_, xwr_ne _ _ _ h101_, xsc_ne _ _ h118_, xwr_ne _ _ _ h118_, xsc_ne _ _ h119_, xwr_ne _ _ _ h119_])))))))) rfl)⟩⟩⟩⟩⟩, fun q2809 => absurd q2809 (by decide)⟩⟩⟩⟩⟩⟩⟩⟩⟩⟩⟩)
theorem c_242 {I : XI} {L : XL} {D : GD}   {kq : Int} {wo : Int} (h : ((0 ≤ kq ∧ kq < 5) ∧ (-2147483648 ≤ wo ∧ wo ≤ 2147483647) ∧ (I 119 kq = 0 ∨ I 119 kq = 1) ∧ (I 119 kq = 1 → (-2147483648 ≤ (I 118 kq) ∧ (I 118 kq) ≤ 2147483647)))) : xM 0 242 [xr (some 101), xi kq, xi wo] I L (gG D) (0, 0) (xD none (xsc (xsc (xsc I 101 (xup (I 101) (35 : Int) ((giw (I 119 kq) (I 118 kq) (I 101 (35 : Int)) (I 117 (0 : Int)) kq wo).2.2))) 118 (xup (I 118) kq ((giw (I 119 kq) (I 118 kq) (I 101 (35 : Int)) (I 117 (0 : Int)) kq wo).2.1))) 119 (xup (I 119) kq ((giw (I 119 kq) (I 118 kq) (I 101 (35 : Int)) (I 117 (0 : Int)) kq wo).1))) L (gG D)) := by
  intro d hd
  obtain ⟨h1, h2, h3, h4⟩ := h
  have e2 : Int.tmod kq 2 = kq % 2 := Int.tmod_eq_emod_of_nonneg h1.1
  refine w_242 (by omega) ?_
  rw [e2]
  unfold giw
  repeat' first | (with_reducible intro _) | (with_reducible refine And.intro ?_ ?_)
  all_goals first | omega | skip
  all_goals first
    | (rw [if_pos (by omega)]; simp only [if_pos (show kq = 0 by assumption)]; exact xD_in)
    | (rw [if_pos (by omega)]; simp only [if_neg (show ¬ kq = 0 by assumption), xup_self]; exact xD_eq rfl (by (funext i; by_cases h101 : i = 101; (subst h101; first | rfl | exact (xcp_zero _ _ _ _).symm | exact (xup_self _ _).symm | exact (xup_self2 _ _ _).symm | exact (xup_self3 _ _ _ _).symm | exact xup_self _ _); by_cases h118 : i = 118; (subst h118; first | rfl | exact (xcp_zero _ _ _ _).symm | exact (xup_self _ _).symm | exact (xup_self2 _ _ _).symm | exact (xup_self3 _ _ _ _).symm | exact xup_self _ _); by_cases h119 : i = 119; (subst h119; first | rfl | exact (xcp_zero _ _ _ _).symm | exact (xup_self _ _).symm | exact (xup_self2 _ _ _).symm | exact (xup_self3 _ _ _ _).symm | exact xup_self _ _); first | rfl | simp only [xsc_ne _ _ h101, xsc_ne _ _ h118, xsc_ne _ _ h119])) rfl)
    | (rw [if_neg (by omega)]; exact xD_eq rfl (by (funext i; by_cases h101 : i = 101; (subst h101; first | rfl | exact (xcp_zero _ _ _ _).symm | exact (xup_self _ _).symm | exact (xup_self2 _ _ _).symm | exact (xup_self3 _ _ _ _).symm | exact xup_self _ _); by_cases h118 : i = 118; (subst h118; first | rfl | exact (xcp_zero _ _ _ _).symm | exact (xup_self _ _).symm | exact (xup_self2 _ _ _).symm | exact (xup_self3 _ _ _ _).symm | exact xup_self _ _); by_cases h119 : i = 119; (subst h119; first | rfl | exact (xcp_zero _ _ _ _).symm | exact (xup_self _ _).symm | exact (xup_self2 _ _ _).symm | exact (xup_self3 _ _ _ _).symm | exact xup_self _ _); first | rfl | simp only [xsc_ne _ _ h101, xsc_ne _ _ h118, xsc_ne _ _ h119])) rfl)
set_option maxRecDepth 8000 in
theorem sg_243_0 {d : Nat} {I : XI} {L : XL} {D : GD} {post : XQ}  {u1 : Int} (h : ((0 ≤ u1 ∧ u1 < (5 : Int)) ∧ ((0 ≤ u1 ∧ u1 < (5 : Int) ∧ ((0 : Int) = 0 ∨ (0 : Int) = 1)) ∧ post none (xwr (xwr I 117 u1 (-1 : Int)) 119 u1 (0 : Int)) L (gG D)))) : xR d 243 es_243 0 [xr (some 101), xi u1] [] I L (gG D) 0 0 post := xW_R (fun k => false) 11 _ _ _ _ _ _ _ _ _ _ _ _ h
set_option maxRecDepth 8000 in
theorem w_243 {d : Nat} {I : XI} {L : XL} {D : GD} {post : XQ}   {kq : Int} (hd : 0 ≤ d) (h : (((0 ≤ kq ∧ kq < (5 : Int))) ∧ ((0 ≤ kq ∧ kq < (5 : Int)) ∧ post none (xsc (xsc I 117 (xup (I 117) kq (-1 : Int))) 119 (xup (I 119) kq (0 : Int))) L (gG D)))) : xR d 243 es_243 0 [xr (some 101), xi kq] [] I L (gG D) 0 0 post := sg_243_0  (⟨h.1, ⟨⟨h.2.1.1, h.2.1.2, (by decide)⟩, h.2.2⟩⟩)
theorem c_243 {I : XI} {L : XL} {D : GD}   {kq : Int} (h : (0 ≤ kq ∧ kq < 5)) : xM 0 243 [xr (some 101), xi kq] I L (gG D) (0, 0) (xD none (xsc (xsc I 117 (xup (I 117) kq (-1))) 119 (xup (I 119) kq 0)) L (gG D)) := by
  intro d hd
  refine w_243 (by omega) ?_
  repeat' first | (with_reducible intro _) | (with_reducible refine And.intro ?_ ?_)
  all_goals first | omega | exact xD_in | assumption | (refine xD_eq ?_ rfl rfl; first | rfl | rw [xb_t (by omega)] | rw [xb_f (by omega)] | (rw [xb_t (by assumption)]) | (rw [xb_f (by assumption)]) | (rw [xb_t (by simp_all; done)]) | (rw [xb_f (by simp_all; done)]))
def gfr (a : Int → Int) (t : Int) : Int → Int := if 0 ≤ t then xup a (11 + t) (-1) else a
def gnx (a : Int → Int) (t : Int) : Int := pnx (gfr a t) 11 (t + 1)
def gta (a : Int → Int) (t g : Int) : Int → Int := if gnx a t < a 3 then xup (gfr a t) (11 + gnx a t) g else gfr a t
theorem gfr_3 (a : Int → Int) (t : Int) : gfr a t 3 = a 3 := by
  unfold gfr
  split
  · rw [xup_ne _ _ (by omega)]
  · rfl
set_option maxRecDepth 8000 in
theorem sg_244_0 {d : Nat} {I : XI} {L : XL} {D : GD} {post : XQ}  {u1 : Int} {u2 : Int} (h : ((0 ≤ u1 ∧ u1 < (5 : Int)) ∧ ((-2147483648 ≤ (I 117 u1) ∧ (I 117 u1) ≤ 2147483647) ∧ (((I 117 u1) < 0 → ((0 ≤ u1 ∧ u1 < (5 : Int)) ∧ xR d 244 es_244 22 [xr (some 101), xi u1, xi u2, xi ((I 117 u1) + (1 : Int))] [] I L (gG D) 0 0 post)) ∧ (0 ≤ (I 117 u1) → ((0 ≤ u1 ∧ u1 < (5 : Int)) ∧ ((0 ≤ ((11 : Int) + (I 117 u1)) ∧ ((11 : Int) + (I 117 u1)) < (102 : Int)) ∧ ((0 ≤ u1 ∧ u1 < (5 : Int)) ∧ xR d 244 es_244 22 [xr (some 101), xi u1, xi u2, xi ((I 117 u1) + (1 : Int))] [] (xwr I 111 ((11 : Int) + (I 117 u1)) (-1 : Int)) L (gG D) 0 0 post)))))))) : xR d 244 es_244 0 [xr (some 101), xi u1, xi u2, xt 0] [] I L (gG D) 0 0 post := xW_R (fun k => Nat.beq k 22) 22 _ _ _ _ _ _ _ _ _ _ _ _ h
set_option maxRecDepth 8000 in
theorem w_244 {d : Nat} {I : XI} {L : XL} {D : GD} {post : XQ}   {kq : Int} {g : Int} (hd : 0 ≤ d) (h : (((0 ≤ kq ∧ kq < (5 : Int))) ∧ (((-2147483648 ≤ (I 117 kq) ∧ (I 117 kq) ≤ 2147483647)) ∧ (((I 117 kq) < 0 → xR d 244 es_244 22 [xr (some 101), xi kq, xi g, xi ((I 117 kq) + (1 : Int))] [] I L (gG D) 0 0 post) ∧ (0 ≤ (I 117 kq) → (((0 ≤ ((11 : Int) + (I 117 kq)) ∧ ((11 : Int) + (I 117 kq)) < (102 : Int))) ∧ xR d 244 es_244 22 [xr (some 101), xi kq, xi g, xi ((I 117 kq) + (1 : Int))] [] (xsc I 111 (xup (I 111) ((11 : Int) + (I 117 kq)) (-1 : Int))) L (gG D) 0 0 post)))))) : xR d 244 es_244 0 [xr (some 101), xi kq, xi g, xt 0] [] I L (gG D) 0 0 post := sg_244_0  (⟨h.1, ⟨h.2.1, ⟨fun q2816 => ⟨h.1, (h.2.2.1 q2816)⟩, fun q2817 => ⟨h.1, ⟨(h.2.2.2 q2817).1, ⟨h.1, (h.2.2.2 q2817).2⟩⟩⟩⟩⟩⟩)
set_option maxRecDepth 8000 in
theorem sg_244_22 {d : Nat} {I : XI} {L : XL} {D : GD} {post : XQ}  {u1 : Int} {u2 : Int} {u3 : Int} (h : ((0 ≤ (3 : Int) ∧ (3 : Int) < (102 : Int)) ∧ (((-2147483648 ≤ u3 ∧ u3 ≤ 2147483647) ∧ (-2147483648 ≤ (I 111 (3 : Int)) ∧ (I 111 (3 : Int)) ≤ 2147483647)) ∧ (((I 111 (3 : Int)) ≤ u3 → ((0 ≤ (3 : Int) ∧ (3 : Int) < (102 : Int)) ∧ (((-2147483648 ≤ u3 ∧ u3 ≤ 2147483647) ∧ (-2147483648 ≤ (I 111 (3 : Int)) ∧ (I 111 (3 : Int)) ≤ 2147483647)) ∧ ((u3 < (I 111 (3 : Int)) → ((0 ≤ u1 ∧ u1 < (5 : Int)) ∧ ((0 ≤ ((11 : Int) + u3) ∧ ((11 : Int) + u3) < (102 : Int)) ∧ (((1 : Int) = 0 ∨ (1 : Int) = 1) ∧ post (some (xi (1 : Int))) (xwr (xwr I 117 u1 u3) 111 ((11 : Int) + u3) u2) L (gG D))))) ∧ ((I 111 (3 : Int)) ≤ u3 → (((0 : Int) = 0 ∨ (0 : Int) = 1) ∧ post (some (xi (0 : Int))) I L (gG D))))))) ∧ (u3 < (I 111 (3 : Int)) → ((0 ≤ ((11 : Int) + u3) ∧ ((11 : Int) + u3) < (102 : Int)) ∧ ((-2147483648 ≤ (I 111 ((11 : Int) + u3)) ∧ (I 111 ((11 : Int) + u3)) ≤ 2147483647) ∧ (((I 111 ((11 : Int) + u3)) < 0 → ((0 ≤ (3 : Int) ∧ (3 : Int) < (102 : Int)) ∧ (((-2147483648 ≤ u3 ∧ u3 ≤ 2147483647) ∧ (-2147483648 ≤ (I 111 (3 : Int)) ∧ (I 111 (3 : Int)) ≤ 2147483647)) ∧ ((u3 < (I 111 (3 : Int)) → ((0 ≤ u1 ∧ u1 < (5 : Int)) ∧ ((0 ≤ ((11 : Int) + u3) ∧ ((11 : Int) + u3) < (102 : Int)) ∧ (((1 : Int) = 0 ∨ (1 : Int) = 1) ∧ post (some (xi (1 : Int))) (xwr (xwr I 117 u1 u3) 111 ((11 : Int) + u3) u2) L (gG D))))) ∧ ((I 111 (3 : Int)) ≤ u3 → (((0 : Int) = 0 ∨ (0 : Int) = 1) ∧ post (some (xi (0 : Int))) I L (gG D))))))) ∧ (0 ≤ (I 111 ((11 : Int) + u3)) → xR d 244 es_244 22 [xr (some 101), xi u1, xi u2, xi (u3 + (1 : Int))] [] I L (gG D) 0 0 post))))))))) : xR d 244 es_244 22 [xr (some 101), xi u1, xi u2, xi u3] [] I L (gG D) 0 0 post := xW_R (fun k => Nat.beq k 22) 33 _ _ _ _ _ _ _ _ _ _ _ _ h
set_option maxRecDepth 8000 in
theorem b_244 {d : Nat} {I : XI} {L : XL} {D : GD} {post : XQ} {rw_ : Int → Int}  {kq : Int} {g : Int} {s : Int} (hd : 0 ≤ d) (h : (((-2147483648 ≤ s ∧ s ≤ 2147483647) ∧ (-2147483648 ≤ (rw_ (3 : Int)) ∧ (rw_ (3 : Int)) ≤ 2147483647)) ∧ (((rw_ (3 : Int)) ≤ s → (((s < (rw_ (3 : Int)) → (((0 ≤ kq ∧ kq < (5 : Int))) ∧ (((0 ≤ ((11 : Int) + s) ∧ ((11 : Int) + s) < (102 : Int))) ∧ post (some (xi (1 : Int))) (xsc (xsc I 111 (xup rw_ ((11 : Int) + s) g)) 117 (xup (I 117) kq s)) L (gG D)))) ∧ ((rw_ (3 : Int)) ≤ s → post (some (xi (0 : Int))) (xsc I 111 rw_) L (gG D))))) ∧ (s < (rw_ (3 : Int)) → (((0 ≤ ((11 : Int) + s) ∧ ((11 : Int) + s) < (102 : Int))) ∧ (((-2147483648 ≤ (rw_ ((11 : Int) + s)) ∧ (rw_ ((11 : Int) + s)) ≤ 2147483647)) ∧ (((rw_ ((11 : Int) + s)) < 0 → (((s < (rw_ (3 : Int)) → (((0 ≤ kq ∧ kq < (5 : Int))) ∧ post (some (xi (1 : Int))) (xsc (xsc I 111 (xup rw_ ((11 : Int) + s) g)) 117 (xup (I 117) kq s)) L (gG D))) ∧ ((rw_ (3 : Int)) ≤ s → post (some (xi (0 : Int))) (xsc I 111 rw_) L (gG D))))) ∧ (0 ≤ (rw_ ((11 : Int) + s)) → xR d 244 es_244 22 [xr (some 101), xi kq, xi g, xi (s + (1 : Int))] [] (xsc I 111 rw_) L (gG D) 0 0 post)))))))) : xR d 244 es_244 22 [xr (some 101), xi kq, xi g, xi s] [] (xsc I 111 rw_) L (gG D) 0 0 post := sg_244_22  (⟨(by decide), ⟨⟨h.1.1, h.1.2⟩, ⟨fun q2824 => ⟨(by decide), ⟨⟨h.1.1, h.1.2⟩, ⟨fun q2818 => ⟨((h.2.1 q2824).1 q2818).1, ⟨((h.2.1 q2824).1 q2818).2.1, ⟨(by decide), (xpost ((h.2.1 q2824).1 q2818).2.2 (funext fun i => (xpt rfl (fun h117_ => (xpt rfl (fun h111_ => (by simp only [xsc_ne _ _ h111_, xwr_ne _ _ _ h111_, xsc_ne _ _ h117_, xwr_ne _ _ _ h117_])))))) rfl)⟩⟩⟩, fun q2819 => ⟨(by decide), ((h.2.1 q2824).2 q2819)⟩⟩⟩⟩, fun q2825 => ⟨(h.2.2 q2825).1, ⟨(h.2.2 q2825).2.1, ⟨fun q2822 => ⟨(by decide), ⟨⟨h.1.1, h.1.2⟩, ⟨fun q2820 => ⟨(((h.2.2 q2825).2.2.1 q2822).1 q2820).1, ⟨(h.2.2 q2825).1, ⟨(by decide), (xpost (((h.2.2 q2825).2.2.1 q2822).1 q2820).2 (funext fun i => (xpt rfl (fun h117_ => (xpt rfl (fun h111_ => (by simp only [xsc_ne _ _ h111_, xwr_ne _ _ _ h111_, xsc_ne _ _ h117_, xwr_ne _ _ _ h117_])))))) rfl)⟩⟩⟩, fun q2821 => ⟨(by decide), (((h.2.2 q2825).2.2.1 q2822).2 q2821)⟩⟩⟩⟩, fun q2823 => ((h.2.2 q2825).2.2.2 q2823)⟩⟩⟩⟩⟩⟩)
theorem lp_244 {I : XI} {L : XL} {D : GD} {d : Nat} {g kq : Int} {rw_ : Int → Int} {t : Int} (hk : 0 ≤ kq ∧ kq < 5) (ht : I 117 kq = t) (hr : ∀ s, 0 ≤ s → s < 10 → -1 ≤ rw_ (11 + s) ∧ rw_ (11 + s) ≤ 5) (hn : 0 ≤ rw_ 3 ∧ rw_ 3 ≤ 10) : ∀ (r : Nat) (s : Int), 0 ≤ s → s ≤ 10 → 10 < s + (r : Int) → xR d 244 es_244 22 [xr (some 101), xi kq, xi g, xi s] [] (xsc I 111 rw_) L (gG D) 0 0 (xD (some (xi (xb (pnx rw_ r s < rw_ 3)))) (xsc (xsc I 111 (if pnx rw_ r s < rw_ 3 then xup rw_ (11 + pnx rw_ r s) g else rw_)) 117 (xup (I 117) kq (if pnx rw_ r s < rw_ 3 then pnx rw_ r s else t))) L (gG D)) := by
  intro r
  induction r with
  | zero => intro s h0 h1 h2; omega
  | succ r ih =>
    intro s h0 h1 h2
    by_cases q : s < rw_ 3 ∧ 0 ≤ rw_ (11 + s)
    · rw [pnx_pos q]
      have := hr s h0 (by omega)
      have i1 := ih (s + 1) (by omega) (by omega) (by omega)
      refine b_244 (by omega) ?_
      repeat' first | (with_reducible intro _) | (with_reducible refine And.intro ?_ ?_)
      all_goals first | omega | exact i1
    · rw [pnx_neg q]
      have := fun q1 : s < 10 => hr s h0 q1
      refine b_244 (by omega) ?_
      repeat' first | (with_reducible intro _) | (with_reducible refine And.intro ?_ ?_)
      all_goals first | omega | skip
      all_goals first
        | (have q3 : s < rw_ 3 := by omega
           rw [xb_t q3, if_pos q3, if_pos q3]; exact xD_in)
        | (have q3 : ¬ s < rw_ 3 := by omega
           rw [xb_f q3, if_neg q3, if_neg q3]; subst ht; exact xD_eq rfl (by (funext i; by_cases h111 : i = 111; (subst h111; first | rfl | exact (xcp_zero _ _ _ _).symm | exact (xup_self _ _).symm | exact (xup_self2 _ _ _).symm | exact (xup_self3 _ _ _ _).symm | exact xup_self _ _); by_cases h117 : i = 117; (subst h117; first | rfl | exact (xcp_zero _ _ _ _).symm | exact (xup_self _ _).symm | exact (xup_self2 _ _ _).symm | exact (xup_self3 _ _ _ _).symm | exact xup_self _ _); first | rfl | simp only [xsc_ne _ _ h111, xsc_ne _ _ h117])) rfl)
theorem c_244 {I : XI} {L : XL} {D : GD}   {kq : Int} {g : Int} (h : ((0 ≤ kq ∧ kq < 5) ∧ SO (I 111) ∧ (-1 ≤ I 117 kq ∧ I 117 kq < I 111 (3 : Int)))) : xM 0 244 [xr (some 101), xi kq, xi g] I L (gG D) (0, 0) (xD (some (xi (xb (gnx (I 111) (I 117 kq) < I 111 (3 : Int))))) (xsc (xsc I 111 (gta (I 111) (I 117 kq) g)) 117 (xup (I 117) kq (if gnx (I 111) (I 117 kq) < I 111 (3 : Int) then gnx (I 111) (I 117 kq) else I 117 kq))) L (gG D)) := by
  intro d hd
  obtain ⟨h1, hS, h2⟩ := h
  have hn := hS.n
  have hg := hS.g
  have hw := fun s (h0 : 0 ≤ s) (h1 : s < 10) => hS.w h0 h1
  refine w_244 (by omega) ?_
  repeat' first | (with_reducible intro _) | (with_reducible refine And.intro ?_ ?_)
  all_goals first | omega | skip
  · have e : gfr (I 111) (I 117 kq) = I 111 := if_neg (by omega)
    have := lp_244 (I := I) (L := L) (D := D) (d := d) (g := g) (kq := kq) (rw_ := I 111) (t := I 117 kq) h1 rfl (fun s a b => by have := hw s a b; omega) hn 11 (I 117 kq + 1) (by omega) (by omega) (by omega)
    unfold gta gnx
    rw [e]
    exact xR_memc this (by (funext i; by_cases h111 : i = 111; (subst h111; first | rfl | exact (xcp_zero _ _ _ _).symm | exact (xup_self _ _).symm | exact (xup_self2 _ _ _).symm | exact (xup_self3 _ _ _ _).symm | exact xup_self _ _); first | rfl | simp only [xsc_ne _ _ h111])) rfl
  · have e : gfr (I 111) (I 117 kq) = xup (I 111) (11 + I 117 kq) (-1) := if_pos (by assumption)
    have e3 : xup (I 111) (11 + I 117 kq) (-1) 3 = I 111 3 := xup_ne _ _ (by omega)
    have := lp_244 (I := I) (L := L) (D := D) (d := d) (g := g) (kq := kq) (rw_ := xup (I 111) (11 + I 117 kq) (-1)) (t := I 117 kq) h1 rfl (fun s a b => by
      have := hw s a b
      unfold xup
      split <;> omega) (by rw [e3]; exact hn) 11 (I 117 kq + 1) (by omega) (by omega) (by omega)
    unfold gta gnx
    rw [e]
    rw [e3] at this
    exact this
set_option maxRecDepth 8000 in
theorem sg_245_0 {d : Nat} {I : XI} {L : XL} {D : GD} {post : XQ}  {u1 : Int} {u2 : Int} {u3 : Int} (h : xR d 245 es_245 4 [xr (some 101), xi u1, xi u2, xi u3, xi (0 : Int)] [xi (0 : Int), xr (some 101)] I L (gG D) 0 0 post) : xR d 245 es_245 0 [xr (some 101), xi u1, xi u2, xi u3, xt 0] [] I L (gG D) 0 0 post := xW_R (fun k => Nat.beq k 4 || Nat.beq k 5 || Nat.beq k 16 || Nat.beq k 34 || Nat.beq k 43 || Nat.beq k 49 || Nat.beq k 52 || Nat.beq k 54 || Nat.beq k 59) 4 _ _ _ _ _ _ _ _ _ _ _ _ h
set_option maxRecDepth 8000 in
theorem w_245 {d : Nat} {I : XI} {L : XL} {D : GD} {post : XQ}   {on : Int} {ot : Int} {n : Int} (hd : 1 ≤ d) (h : ((0 ≤ (0 : Int) ∧ (0 : Int) < 5) ∧ xR d 245 es_245 5 [xr (some 101), xi on, xi ot, xi n, xi (0 : Int)] [] (xsc (xsc I 117 (xup (I 117) (0 : Int) (-1))) 119 (xup (I 119) (0 : Int) 0)) L (gG D) 0 0 post)) : xR d 245 es_245 0 [xr (some 101), xi on, xi ot, xi n, xt 0] [] I L (gG D) 0 0 post := sg_245_0  ((xR_cF rfl rfl rfl (c_243 h.1) (by omega) h.2))
set_option maxRecDepth 8000 in
theorem sg_245_5 {d : Nat} {I : XI} {L : XL} {D : GD} {post : XQ}  {u1 : Int} {u2 : Int} {u3 : Int} {u4 : Int} (h : ((-2147483648 ≤ u4 ∧ u4 ≤ 2147483647) ∧ ((u4 < 0 → post none I L (gG D)) ∧ (0 ≤ u4 → (((-2147483648 ≤ u4 ∧ u4 ≤ 2147483647) ∧ (-2147483648 ≤ (2 : Int) ∧ (2 : Int) ≤ 2147483647) ∧ ¬ (2 : Int) = 0) ∧ ((-2147483648 ≤ (Int.tmod u4 (2 : Int)) ∧ (Int.tmod u4 (2 : Int)) ≤ 2147483647) ∧ ((¬ (Int.tmod u4 (2 : Int)) = 0 → xR d 245 es_245 16 [xr (some 101), xi u1, xi u2, xi u3, xi u4] [xi u2, xi u4, xr (some 101)] I L (gG D) 0 0 post) ∧ ((Int.tmod u4 (2 : Int)) = 0 → xR d 245 es_245 16 [xr (some 101), xi u1, xi u2, xi u3, xi u4] [xi u1, xi u4, xr (some 101)] I L (gG D) 0 0 post)))))))) : xR d 245 es_245 5 [xr (some 101), xi u1, xi u2, xi u3, xi u4] [] I L (gG D) 0 0 post := xW_R (fun k => Nat.beq k 4 || Nat.beq k 5 || Nat.beq k 16 || Nat.beq k 34 || Nat.beq k 43 || Nat.beq k 49 || Nat.beq k 52 || Nat.beq k 54 || Nat.beq k 59) 10 _ _ _ _ _ _ _ _ _ _ _ _ h
set_option maxRecDepth 8000 in
theorem sg_245_17 {d : Nat} {I : XI} {L : XL} {D : GD} {post : XQ}  {u1 : Int} {u2 : Int} {u3 : Int} {u4 : Int} {w0 : Int} (h : ((-2147483648 ≤ w0 ∧ w0 ≤ 2147483647) ∧ ((¬ w0 = 0 → (((-2147483648 ≤ (u4 + (1 : Int)) ∧ (u4 + (1 : Int)) ≤ 2147483647) ∧ (-2147483648 ≤ u3 ∧ u3 ≤ 2147483647)) ∧ (((u4 + (1 : Int)) = u3 → xR d 245 es_245 49 [xr (some 101), xi u1, xi u2, xi u3, xi u4] [xi u1, xr (some 101), xi u4, xr (some 101)] I L (gG D) 0 0 post) ∧ (¬ (u4 + (1 : Int)) = u3 → xR d 245 es_245 43 [xr (some 101), xi u1, xi u2, xi u3, xi u4] [xi (-1 : Int), xr (some 101)] I L (gG D) 0 0 post)))) ∧ (w0 = 0 → ((0 ≤ u4 ∧ u4 < (5 : Int)) ∧ ((-2147483648 ≤ (u4 + (-1 : Int)) ∧ (u4 + (-1 : Int)) ≤ 2147483647) ∧ (((u4 + (-1 : Int)) < 0 → xR d 245 es_245 5 [xr (some 101), xi u1, xi u2, xi u3, xi (u4 + (-1 : Int))] [] (xwr I 117 u4 (-1 : Int)) L (gG D) 0 0 post) ∧ (0 ≤ (u4 + (-1 : Int)) → ((0 ≤ ((u4 + (-1 : Int)) + (1 : Int)) ∧ ((u4 + (-1 : Int)) + (1 : Int)) < (5 : Int)) ∧ xR d 245 es_245 34 [xr (some 101), xi u1, xi u2, xi u3, xi (u4 + (-1 : Int))] [xi (I 118 ((u4 + (-1 : Int)) + (1 : Int))), xi (u4 + (-1 : Int)), xr (some 101)] (xwr I 117 u4 (-1 : Int)) L (gG D) 0 0 post))))))))) : xR d 245 es_245 17 [xr (some 101), xi u1, xi u2, xi u3, xi u4] [xi w0] I L (gG D) 0 0 post := xW_R (fun k => Nat.beq k 4 || Nat.beq k 5 || Nat.beq k 16 || Nat.beq k 34 || Nat.beq k 43 || Nat.beq k 49 || Nat.beq k 52 || Nat.beq k 54 || Nat.beq k 59) 17 _ _ _ _ _ _ _ _ _ _ _ _ h
set_option maxRecDepth 8000 in
theorem sg_245_50 {d : Nat} {I : XI} {L : XL} {D : GD} {post : XQ}  {u1 : Int} {u2 : Int} {u3 : Int} {u4 : Int} {w1 : Int} {w2 : Int} (h : xR d 245 es_245 52 [xr (some 101), xi u1, xi u2, xi u3, xi u4] [xi u2, xr (some 101), xi w2, xi w1, xr (some 101)] I L (gG D) 0 0 post) : xR d 245 es_245 50 [xr (some 101), xi u1, xi u2, xi u3, xi u4] [xi w2, xi w1, xr (some 101)] I L (gG D) 0 0 post := xW_R (fun k => Nat.beq k 4 || Nat.beq k 5 || Nat.beq k 16 || Nat.beq k 34 || Nat.beq k 43 || Nat.beq k 49 || Nat.beq k 52 || Nat.beq k 54 || Nat.beq k 59) 2 _ _ _ _ _ _ _ _ _ _ _ _ h
set_option maxRecDepth 8000 in
theorem sg_245_53 {d : Nat} {I : XI} {L : XL} {D : GD} {post : XQ}  {u1 : Int} {u2 : Int} {u3 : Int} {u4 : Int} {w1 : Int} {w2 : Int} {w3 : Int} (h : xR d 245 es_245 54 [xr (some 101), xi u1, xi u2, xi u3, xi u4] [xi (w2 - w3), xi w1, xr (some 101)] I L (gG D) 0 0 post) : xR d 245 es_245 53 [xr (some 101), xi u1, xi u2, xi u3, xi u4] [xi w3, xi w2, xi w1, xr (some 101)] I L (gG D) 0 0 post := xW_R (fun k => Nat.beq k 4 || Nat.beq k 5 || Nat.beq k 16 || Nat.beq k 34 || Nat.beq k 43 || Nat.beq k 49 || Nat.beq k 52 || Nat.beq k 54 || Nat.beq k 59) 1 _ _ _ _ _ _ _ _ _ _ _ _ h
set_option maxRecDepth 8000 in
theorem sg_245_55 {d : Nat} {I : XI} {L : XL} {D : GD} {post : XQ}  {u1 : Int} {u2 : Int} {u3 : Int} {u4 : Int} (h : xR d 245 es_245 5 [xr (some 101), xi u1, xi u2, xi u3, xi u4] [] I L (gG D) 0 0 post) : xR d 245 es_245 55 [xr (some 101), xi u1, xi u2, xi u3, xi u4] [] I L (gG D) 0 0 post := xW_R (fun k => Nat.beq k 4 || Nat.beq k 5 || Nat.beq k 16 || Nat.beq k 34 || Nat.beq k 43 || Nat.beq k 49 || Nat.beq k 52 || Nat.beq k 54 || Nat.beq k 59) 1 _ _ _ _ _ _ _ _ _ _ _ _ h
set_option maxRecDepth 8000 in
theorem sg_245_44 {d : Nat} {I : XI} {L : XL} {D : GD} {post : XQ}  {u1 : Int} {u2 : Int} {u3 : Int} {u4 : Int} {w0 : Int} (h : ((-2147483648 ≤ w0 ∧ w0 ≤ 2147483647) ∧ ((¬ w0 = 0 → xR d 245 es_245 59 [xr (some 101), xi u1, xi u2, xi u3, xi (u4 + (1 : Int))] [xi (u4 + (1 : Int)), xr (some 101)] I L (gG D) 0 0 post) ∧ (w0 = 0 → xR d 245 es_245 49 [xr (some 101), xi u1, xi u2, xi u3, xi u4] [xi u1, xr (some 101), xi u4, xr (some 101)] I L (gG D) 0 0 post)))) : xR d 245 es_245 44 [xr (some 101), xi u1, xi u2, xi u3, xi u4] [xi w0] I L (gG D) 0 0 post := xW_R (fun k => Nat.beq k 4 || Nat.beq k 5 || Nat.beq k 16 || Nat.beq k 34 || Nat.beq k 43 || Nat.beq k 49 || Nat.beq k 52 || Nat.beq k 54 || Nat.beq k 59) 5 _ _ _ _ _ _ _ _ _ _ _ _ h
set_option maxRecDepth 8000 in
theorem sg_245_60 {d : Nat} {I : XI} {L : XL} {D : GD} {post : XQ}  {u1 : Int} {u2 : Int} {u3 : Int} {u4 : Int} (h : xR d 245 es_245 5 [xr (some 101), xi u1, xi u2, xi u3, xi u4] [] I L (gG D) 0 0 post) : xR d 245 es_245 60 [xr (some 101), xi u1, xi u2, xi u3, xi u4] [] I L (gG D) 0 0 post := xW_R (fun k => Nat.beq k 4 || Nat.beq k 5 || Nat.beq k 16 || Nat.beq k 34 || Nat.beq k 43 || Nat.beq k 49 || Nat.beq k 52 || Nat.beq k 54 || Nat.beq k 59) 1 _ _ _ _ _ _ _ _ _ _ _ _ h
set_option maxRecDepth 8000 in
theorem sg_245_35 {d : Nat} {I : XI} {L : XL} {D : GD} {post : XQ}  {u1 : Int} {u2 : Int} {u3 : Int} {u4 : Int} (h : xR d 245 es_245 5 [xr (some 101), xi u1, xi u2, xi u3, xi u4] [] I L (gG D) 0 0 post) : xR d 245 es_245 35 [xr (some 101), xi u1, xi u2, xi u3, xi u4] [] I L (gG D) 0 0 post := xW_R (fun k => Nat.beq k 4 || Nat.beq k 5 || Nat.beq k 16 || Nat.beq k 34 || Nat.beq k 43 || Nat.beq k 49 || Nat.beq k 52 || Nat.beq k 54 || Nat.beq k 59) 1 _ _ _ _ _ _ _ _ _ _ _ _ h
set_option maxRecDepth 8000 in
theorem b_245 {d : Nat} {I : XI} {L : XL} {D : GD} {post : XQ} {rw_ T B X : Int → Int} {ft : Int}  {on : Int} {ot : Int} {n : Int} {kq : Int} (hd : 4 ≤ d) (h : (((-2147483648 ≤ kq ∧ kq ≤ 2147483647)) ∧ ((kq < 0 → post none (xsc (xsc (xsc (xsc (xsc I 101 (xup (I 101) (35 : Int) ft)) 111 rw_) 117 T) 118 B) 119 X) L (gG D)) ∧ (0 ≤ kq → (((-2147483648 ≤ (Int.tmod kq (2 : Int)) ∧ (Int.tmod kq (2 : Int)) ≤ 2147483647)) ∧ ((¬ (Int.tmod kq (2 : Int)) = 0 → (((0 ≤ kq ∧ kq < 5) ∧ SO rw_ ∧ (-1 ≤ T kq ∧ T kq < rw_ (3 : Int))) ∧ (((gnx rw_ (T kq) < rw_ (3 : Int) → (((-2147483648 ≤ (kq + (1 : Int)) ∧ (kq + (1 : Int)) ≤ 2147483647) ∧ (-2147483648 ≤ n ∧ n ≤ 2147483647)) ∧ (((kq + (1 : Int)) = n → ((SO (gta rw_ (T kq) ot) ∧ (0 ≤ on ∧ on < 5)) ∧ ((SO (gta rw_ (T kq) ot) ∧ (0 ≤ ot ∧ ot < 5)) ∧ (((0 ≤ kq ∧ kq < 5) ∧ (-2147483648 ≤ ((phas (gta rw_ (T kq) ot) on) - (phas (gta rw_ (T kq) ot) ot)) ∧ ((phas (gta rw_ (T kq) ot) on) - (phas (gta rw_ (T kq) ot) ot)) ≤ 2147483647) ∧ (X kq = 0 ∨ X kq = 1) ∧ (X kq = 1 → (-2147483648 ≤ (B kq) ∧ (B kq) ≤ 2147483647))) ∧ xR d 245 es_245 5 [xr (some 101), xi on, xi ot, xi n, xi kq] [] (xsc (xsc (xsc (xsc (xsc I 101 (xup (I 101) (35 : Int) ((giw (X kq) (B kq) (ft) (xup T kq (if gnx rw_ (T kq) < rw_ (3 : Int) then gnx rw_ (T kq) else T kq) (0 : Int)) kq ((phas (gta rw_ (T kq) ot) on) - (phas (gta rw_ (T kq) ot) ot))).2.2))) 111 (gta rw_ (T kq) ot)) 117 (xup T kq (if gnx rw_ (T kq) < rw_ (3 : Int) then gnx rw_ (T kq) else T kq))) 118 (xup B kq ((giw (X kq) (B kq) (ft) (xup T kq (if gnx rw_ (T kq) < rw_ (3 : Int) then gnx rw_ (T kq) else T kq) (0 : Int)) kq ((phas (gta rw_ (T kq) ot) on) - (phas (gta rw_ (T kq) ot) ot))).2.1))) 119 (xup X kq ((giw (X kq) (B kq) (ft) (xup T kq (if gnx rw_ (T kq) < rw_ (3 : Int) then gnx rw_ (T kq) else T kq) (0 : Int)) kq ((phas (gta rw_ (T kq) ot) on) - (phas (gta rw_ (T kq) ot) ot))).1))) L (gG D) 0 0 post)))) ∧ (¬ (kq + (1 : Int)) = n → ((SO (gta rw_ (T kq) ot) ∧ (-2147483648 ≤ (-1 : Int) ∧ (-1 : Int) ≤ 2147483647)) ∧ (((-2147483648 ≤ (pslices (gta rw_ (T kq) ot) (-1 : Int)) ∧ (pslices (gta rw_ (T kq) ot) (-1 : Int)) ≤ 2147483647)) ∧ ((¬ (pslices (gta rw_ (T kq) ot) (-1 : Int)) = 0 → ((0 ≤ (kq + (1 : Int)) ∧ (kq + (1 : Int)) < 5) ∧ xR d 245 es_245 5 [xr (some 101), xi on, xi ot, xi n, xi (kq + (1 : Int))] [] (xsc (xsc (xsc (xsc (xsc I 101 (xup (I 101) (35 : Int) ft)) 111 (gta rw_ (T kq) ot)) 117 (xup (xup T kq (if gnx rw_ (T kq) < rw_ (3 : Int) then gnx rw_ (T kq) else T kq)) (kq + (1 : Int)) (-1))) 118 B) 119 (xup X (kq + (1 : Int)) 0)) L (gG D) 0 0 post)) ∧ ((pslices (gta rw_ (T kq) ot) (-1 : Int)) = 0 → ((SO (gta rw_ (T kq) ot) ∧ (0 ≤ on ∧ on < 5)) ∧ ((SO (gta rw_ (T kq) ot) ∧ (0 ≤ ot ∧ ot < 5)) ∧ (((0 ≤ kq ∧ kq < 5) ∧ (-2147483648 ≤ ((phas (gta rw_ (T kq) ot) on) - (phas (gta rw_ (T kq) ot) ot)) ∧ ((phas (gta rw_ (T kq) ot) on) - (phas (gta rw_ (T kq) ot) ot)) ≤ 2147483647) ∧ (X kq = 0 ∨ X kq = 1) ∧ (X kq = 1 → (-2147483648 ≤ (B kq) ∧ (B kq) ≤ 2147483647))) ∧ xR d 245 es_245 5 [xr (some 101), xi on, xi ot, xi n, xi kq] [] (xsc (xsc (xsc (xsc (xsc I 101 (xup (I 101) (35 : Int) ((giw (X kq) (B kq) (ft) (xup T kq (if gnx rw_ (T kq) < rw_ (3 : Int) then gnx rw_ (T kq) else T kq) (0 : Int)) kq ((phas (gta rw_ (T kq) ot) on) - (phas (gta rw_ (T kq) ot) ot))).2.2))) 111 (gta rw_ (T kq) ot)) 117 (xup T kq (if gnx rw_ (T kq) < rw_ (3 : Int) then gnx rw_ (T kq) else T kq))) 118 (xup B kq ((giw (X kq) (B kq) (ft) (xup T kq (if gnx rw_ (T kq) < rw_ (3 : Int) then gnx rw_ (T kq) else T kq) (0 : Int)) kq ((phas (gta rw_ (T kq) ot) on) - (phas (gta rw_ (T kq) ot) ot))).2.1))) 119 (xup X kq ((giw (X kq) (B kq) (ft) (xup T kq (if gnx rw_ (T kq) < rw_ (3 : Int) then gnx rw_ (T kq) else T kq) (0 : Int)) kq ((phas (gta rw_ (T kq) ot) on) - (phas (gta rw_ (T kq) ot) ot))).1))) L (gG D) 0 0 post))))))))))) ∧ (¬ (gnx rw_ (T kq) < rw_ (3 : Int)) → (((0 ≤ kq ∧ kq < (5 : Int))) ∧ (((-2147483648 ≤ (kq + (-1 : Int)) ∧ (kq + (-1 : Int)) ≤ 2147483647)) ∧ (((kq + (-1 : Int)) < 0 → xR d 245 es_245 5 [xr (some 101), xi on, xi ot, xi n, xi (kq + (-1 : Int))] [] (xsc (xsc (xsc (xsc (xsc I 101 (xup (I 101) (35 : Int) ft)) 111 (gta rw_ (T kq) ot)) 117 (xup T kq (-1 : Int))) 118 B) 119 X) L (gG D) 0 0 post) ∧ (0 ≤ (kq + (-1 : Int)) → (((0 ≤ ((kq + (-1 : Int)) + (1 : Int)) ∧ ((kq + (-1 : Int)) + (1 : Int)) < (5 : Int))) ∧ (((0 ≤ (kq + (-1 : Int)) ∧ (kq + (-1 : Int)) < 5) ∧ (-2147483648 ≤ (B ((kq + (-1 : Int)) + (1 : Int))) ∧ (B ((kq + (-1 : Int)) + (1 : Int))) ≤ 2147483647) ∧ (X (kq + (-1 : Int)) = 0 ∨ X (kq + (-1 : Int)) = 1) ∧ (X (kq + (-1 : Int)) = 1 → (-2147483648 ≤ (B (kq + (-1 : Int))) ∧ (B (kq + (-1 : Int))) ≤ 2147483647))) ∧ xR d 245 es_245 5 [xr (some 101), xi on, xi ot, xi n, xi (kq + (-1 : Int))] [] (xsc (xsc (xsc (xsc (xsc I 101 (xup (I 101) (35 : Int) ((giw (X (kq + (-1 : Int))) (B (kq + (-1 : Int))) (ft) (xup (xup T kq (if gnx rw_ (T kq) < rw_ (3 : Int) then gnx rw_ (T kq) else T kq)) kq (-1 : Int) (0 : Int)) (kq + (-1 : Int)) (B ((kq + (-1 : Int)) + (1 : Int)))).2.2))) 111 (gta rw_ (T kq) ot)) 117 (xup T kq (-1 : Int))) 118 (xup B (kq + (-1 : Int)) ((giw (X (kq + (-1 : Int))) (B (kq + (-1 : Int))) (ft) (xup (xup T kq (if gnx rw_ (T kq) < rw_ (3 : Int) then gnx rw_ (T kq) else T kq)) kq (-1 : Int) (0 : Int)) (kq + (-1 : Int)) (B ((kq + (-1 : Int)) + (1 : Int)))).2.1))) 119 (xup X (kq + (-1 : Int)) ((giw (X (kq + (-1 : Int))) (B (kq + (-1 : Int))) (ft) (xup (xup T kq (if gnx rw_ (T kq) < rw_ (3 : Int) then gnx rw_ (T kq) else T kq)) kq (-1 : Int) (0 : Int)) (kq + (-1 : Int)) (B ((kq + (-1 : Int)) + (1 : Int)))).1))) L (gG D) 0 0 post))))))))))) ∧ ((Int.tmod kq (2 : Int)) = 0 → (((0 ≤ kq ∧ kq < 5) ∧ SO rw_ ∧ (-1 ≤ T kq ∧ T kq < rw_ (3 : Int))) ∧ (((gnx rw_ (T kq) < rw_ (3 : Int) → (((-2147483648 ≤ (kq + (1 : Int)) ∧ (kq + (1 : Int)) ≤ 2147483647) ∧ (-2147483648 ≤ n ∧ n ≤ 2147483647)) ∧ (((kq + (1 : Int)) = n → ((SO (gta rw_ (T kq) on) ∧ (0 ≤ on ∧ on < 5)) ∧ ((SO (gta rw_ (T kq) on) ∧ (0 ≤ ot ∧ ot < 5)) ∧ (((0 ≤ kq ∧ kq < 5) ∧ (-2147483648 ≤ ((phas (gta rw_ (T kq) on) on) - (phas (gta rw_ (T kq) on) ot)) ∧ ((phas (gta rw_ (T kq) on) on) - (phas (gta rw_ (T kq) on) ot)) ≤ 2147483647) ∧ (X kq = 0 ∨ X kq = 1) ∧ (X kq = 1 → (-2147483648 ≤ (B kq) ∧ (B kq) ≤ 2147483647))) ∧ xR d 245 es_245 5 [xr (some 101), xi on, xi ot, xi n, xi kq] [] (xsc (xsc (xsc (xsc (xsc I 101 (xup (I 101) (35 : Int) ((giw (X kq) (B kq) (ft) (xup T kq (if gnx rw_ (T kq) < rw_ (3 : Int) then gnx rw_ (T kq) else T kq) (0 : Int)) kq ((phas (gta rw_ (T kq) on) on) - (phas (gta rw_ (T kq) on) ot))).2.2))) 111 (gta rw_ (T kq) on)) 117 (xup T kq (if gnx rw_ (T kq) < rw_ (3 : Int) then gnx rw_ (T kq) else T kq))) 118 (xup B kq ((giw (X kq) (B kq) (ft) (xup T kq (if gnx rw_ (T kq) < rw_ (3 : Int) then gnx rw_ (T kq) else T kq) (0 : Int)) kq ((phas (gta rw_ (T kq) on) on) - (phas (gta rw_ (T kq) on) ot))).2.1))) 119 (xup X kq ((giw (X kq) (B kq) (ft) (xup T kq (if gnx rw_ (T kq) < rw_ (3 : Int) then gnx rw_ (T kq) else T kq) (0 : Int)) kq ((phas (gta rw_ (T kq) on) on) - (phas (gta rw_ (T kq) on) ot))).1))) L (gG D) 0 0 post)))) ∧ (¬ (kq + (1 : Int)) = n → ((SO (gta rw_ (T kq) on) ∧ (-2147483648 ≤ (-1 : Int) ∧ (-1 : Int) ≤ 2147483647)) ∧ (((-2147483648 ≤ (pslices (gta rw_ (T kq) on) (-1 : Int)) ∧ (pslices (gta rw_ (T kq) on) (-1 : Int)) ≤ 2147483647)) ∧ ((¬ (pslices (gta rw_ (T kq) on) (-1 : Int)) = 0 → ((0 ≤ (kq + (1 : Int)) ∧ (kq + (1 : Int)) < 5) ∧ xR d 245 es_245 5 [xr (some 101), xi on, xi ot, xi n, xi (kq + (1 : Int))] [] (xsc (xsc (xsc (xsc (xsc I 101 (xup (I 101) (35 : Int) ft)) 111 (gta rw_ (T kq) on)) 117 (xup (xup T kq (if gnx rw_ (T kq) < rw_ (3 : Int) then gnx rw_ (T kq) else T kq)) (kq + (1 : Int)) (-1))) 118 B) 119 (xup X (kq + (1 : Int)) 0)) L (gG D) 0 0 post)) ∧ ((pslices (gta rw_ (T kq) on) (-1 : Int)) = 0 → ((SO (gta rw_ (T kq) on) ∧ (0 ≤ on ∧ on < 5)) ∧ ((SO (gta rw_ (T kq) on) ∧ (0 ≤ ot ∧ ot < 5)) ∧ (((0 ≤ kq ∧ kq < 5) ∧ (-2147483648 ≤ ((phas (gta rw_ (T kq) on) on) - (phas (gta rw_ (T kq) on) ot)) ∧ ((phas (gta rw_ (T kq) on) on) - (phas (gta rw_ (T kq) on) ot)) ≤ 2147483647) ∧ (X kq = 0 ∨ X kq = 1) ∧ (X kq = 1 → (-2147483648 ≤ (B kq) ∧ (B kq) ≤ 2147483647))) ∧ xR d 245 es_245 5 [xr (some 101), xi on, xi ot, xi n, xi kq] [] (xsc (xsc (xsc (xsc (xsc I 101 (xup (I 101) (35 : Int) ((giw (X kq) (B kq) (ft) (xup T kq (if gnx rw_ (T kq) < rw_ (3 : Int) then gnx rw_ (T kq) else T kq) (0 : Int)) kq ((phas (gta rw_ (T kq) on) on) - (phas (gta rw_ (T kq) on) ot))).2.2))) 111 (gta rw_ (T kq) on)) 117 (xup T kq (if gnx rw_ (T kq) < rw_ (3 : Int) then gnx rw_ (T kq) else T kq))) 118 (xup B kq ((giw (X kq) (B kq) (ft) (xup T kq (if gnx rw_ (T kq) < rw_ (3 : Int) then gnx rw_ (T kq) else T kq) (0 : Int)) kq ((phas (gta rw_ (T kq) on) on) - (phas (gta rw_ (T kq) on) ot))).2.1))) 119 (xup X kq ((giw (X kq) (B kq) (ft) (xup T kq (if gnx rw_ (T kq) < rw_ (3 : Int) then gnx rw_ (T kq) else T kq) (0 : Int)) kq ((phas (gta rw_ (T kq) on) on) - (phas (gta rw_ (T kq) on) ot))).1))) L (gG D) 0 0 post))))))))))) ∧ (¬ (gnx rw_ (T kq) < rw_ (3 : Int)) → (((0 ≤ kq ∧ kq < (5 : Int))) ∧ (((-2147483648 ≤ (kq + (-1 : Int)) ∧ (kq + (-1 : Int)) ≤ 2147483647)) ∧ (((kq + (-1 : Int)) < 0 → xR d 245 es_245 5 [xr (some 101), xi on, xi ot, xi n, xi (kq + (-1 : Int))] [] (xsc (xsc (xsc (xsc (xsc I 101 (xup (I 101) (35 : Int) ft)) 111 (gta rw_ (T kq) on)) 117 (xup T kq (-1 : Int))) 118 B) 119 X) L (gG D) 0 0 post) ∧ (0 ≤ (kq + (-1 : Int)) → (((0 ≤ ((kq + (-1 : Int)) + (1 : Int)) ∧ ((kq + (-1 : Int)) + (1 : Int)) < (5 : Int))) ∧ (((0 ≤ (kq + (-1 : Int)) ∧ (kq + (-1 : Int)) < 5) ∧ (-2147483648 ≤ (B ((kq + (-1 : Int)) + (1 : Int))) ∧ (B ((kq + (-1 : Int)) + (1 : Int))) ≤ 2147483647) ∧ (X (kq + (-1 : Int)) = 0 ∨ X (kq + (-1 : Int)) = 1) ∧ (X (kq + (-1 : Int)) = 1 → (-2147483648 ≤ (B (kq + (-1 : Int))) ∧ (B (kq + (-1 : Int))) ≤ 2147483647))) ∧ xR d 245 es_245 5 [xr (some 101), xi on, xi ot, xi n, xi (kq + (-1 : Int))] [] (xsc (xsc (xsc (xsc (xsc I 101 (xup (I 101) (35 : Int) ((giw (X (kq + (-1 : Int))) (B (kq + (-1 : Int))) (ft) (xup (xup T kq (if gnx rw_ (T kq) < rw_ (3 : Int) then gnx rw_ (T kq) else T kq)) kq (-1 : Int) (0 : Int)) (kq + (-1 : Int)) (B ((kq + (-1 : Int)) + (1 : Int)))).2.2))) 111 (gta rw_ (T kq) on)) 117 (xup T kq (-1 : Int))) 118 (xup B (kq + (-1 : Int)) ((giw (X (kq + (-1 : Int))) (B (kq + (-1 : Int))) (ft) (xup (xup T kq (if gnx rw_ (T kq) < rw_ (3 : Int) then gnx rw_ (T kq) else T kq)) kq (-1 : Int) (0 : Int)) (kq + (-1 : Int)) (B ((kq + (-1 : Int)) + (1 : Int)))).2.1))) 119 (xup X (kq + (-1 : Int)) ((giw (X (kq + (-1 : Int))) (B (kq + (-1 : Int))) (ft) (xup (xup T kq (if gnx rw_ (T kq) < rw_ (3 : Int) then gnx rw_ (T kq) else T kq)) kq (-1 : Int) (0 : Int)) (kq + (-1 : Int)) (B ((kq + (-1 : Int)) + (1 : Int)))).1))) L (gG D) 0 0 post))))))))))))))))) : xR d 245 es_245 5 [xr (some 101), xi on, xi ot, xi n, xi kq] [] (xsc (xsc (xsc (xsc (xsc I 101 (xup (I 101) (35 : Int) ft)) 111 rw_) 117 T) 118 B) 119 X) L (gG D) 0 0 post := sg_245_5  (⟨h.1, ⟨fun q2844 => (h.2.1 q2844), fun q2845 => ⟨⟨h.1, (by decide), (by decide)⟩, ⟨(h.2.2 q2845).1, ⟨fun q2842 => (xR_cF rfl rfl rfl (c_244 ((h.2.2 q2845).2.1 q2842).1) (by omega) (sg_245_17  ⟨(xb_rg _), ⟨fun q2832 => ⟨⟨(((h.2.2 q2845).2.1 q2842).2.1 (xb_n0 q2832)).1.1, (((h.2.2 q2845).2.1 q2842).2.1 (xb_n0 q2832)).1.2⟩, ⟨fun q2828 => (xR_cF rfl rfl rfl (c_199 ((((h.2.2 q2845).2.1 q2842).2.1 (xb_n0 q2832)).2.1 q2828).1) (by omega) (sg_245_50  (xR_cF rfl rfl rfl (c_199 ((((h.2.2 q2845).2.1 q2842).2.1 (xb_n0 q2832)).2.1 q2828).2.1) (by omega) (sg_245_53  (xR_cF rfl rfl rfl (c_242 ((((h.2.2 q2845).2.1 q2842).2.1 (xb_n0 q2832)).2.1 q2828).2.2.1) (by omega) (sg_245_55  (xR_memc ((((h.2.2 q2845).2.1 q2842).2.1 (xb_n0 q2832)).2.1 q2828).2.2.2 (funext fun i => (xpt rfl (fun h119_ => (xpt rfl (fun h118_ => (xpt rfl (fun h117_ => (xpt rfl (fun h111_ => (xpt (show (xup (xup (I 101) (35 : Int) ft) (35 : Int) ((giw (X kq) (B kq) (ft) (xup T kq (if gnx rw_ (T kq) < rw_ (3 : Int) then gnx rw_ (T kq) else T kq) (0 : Int)) kq ((phas (gta rw_ (T kq) ot) on) - (phas (gta rw_ (T kq) ot) ot))).2.2)) = (xup (I 101) (35 : Int) ((giw (X kq) (B kq) (ft) (xup T kq (if gnx rw_ (T kq) < rw_ (3 : Int) then gnx rw_ (T kq) else T kq) (0 : Int)) kq ((phas (gta rw_ (T kq) ot) on) - (phas (gta rw_ (T kq) ot) ot))).2.2)) from by funext j; simp only [xup]; (repeat' split) <;> first | rfl | omega) (fun h101_ => (by simp only [xsc_ne _ _ h101_, xwr_ne _ _ _ h101_, xsc_ne _ _ h111_, xwr_ne _ _ _ h111_, xsc_ne _ _ h117_, xwr_ne _ _ _ h117_, xsc_ne _ _ h118_, xwr_ne _ _ _ h118_, xsc_ne _ _ h119_, xwr_ne _ _ _ h119_])))))))))))) rfl))))))), fun q2829 => (xR_cF rfl rfl rfl (c_197 ((((h.2.2 q2845).2.1 q2842).2.1 (xb_n0 q2832)).2.2 q2829).1) (by omega) (sg_245_44  ⟨((((h.2.2 q2845).2.1 q2842).2.1 (xb_n0 q2832)).2.2 q2829).2.1, ⟨fun q2826 => (xR_cF rfl rfl rfl (c_243 (((((h.2.2 q2845).2.1 q2842).2.1 (xb_n0 q2832)).2.2 q2829).2.2.1 q2826).1) (by omega) (sg_245_60  (xR_memc (((((h.2.2 q2845).2.1 q2842).2.1 (xb_n0 q2832)).2.2 q2829).2.2.1 q2826).2 (funext fun i => (xpt rfl (fun h119_ => (xpt rfl (fun h118_ => (xpt rfl (fun h117_ => (xpt rfl (fun h111_ => (xpt rfl (fun h101_ => (by simp only [xsc_ne _ _ h101_, xwr_ne _ _ _ h101_, xsc_ne _ _ h111_, xwr_ne _ _ _ h111_, xsc_ne _ _ h117_, xwr_ne _ _ _ h117_, xsc_ne _ _ h118_, xwr_ne _ _ _ h118_, xsc_ne _ _ h119_, xwr_ne _ _ _ h119_])))))))))))) rfl))), fun q2827 => (xR_cF rfl rfl rfl (c_199 (((((h.2.2 q2845).2.1 q2842).2.1 (xb_n0 q2832)).2.2 q2829).2.2.2 q2827).1) (by omega) (sg_245_50  (xR_cF rfl rfl rfl (c_199 (((((h.2.2 q2845).2.1 q2842).2.1 (xb_n0 q2832)).2.2 q2829).2.2.2 q2827).2.1) (by omega) (sg_245_53  (xR_cF rfl rfl rfl (c_242 (((((h.2.2 q2845).2.1 q2842).2.1 (xb_n0 q2832)).2.2 q2829).2.2.2 q2827).2.2.1) (by omega) (sg_245_55  (xR_memc (((((h.2.2 q2845).2.1 q2842).2.1 (xb_n0 q2832)).2.2 q2829).2.2.2 q2827).2.2.2 (funext fun i => (xpt rfl (fun h119_ => (xpt rfl (fun h118_ => (xpt rfl (fun h117_ => (xpt rfl (fun h111_ => (xpt (show (xup (xup (I 101) (35 : Int) ft) (35 : Int) ((giw (X kq) (B kq) (ft) (xup T kq (if gnx rw_ (T kq) < rw_ (3 : Int) then gnx rw_ (T kq) else T kq) (0 : Int)) kq ((phas (gta rw_ (T kq) ot) on) - (phas (gta rw_ (T kq) ot) ot))).2.2)) = (xup (I 101) (35 : Int) ((giw (X kq) (B kq) (ft) (xup T kq (if gnx rw_ (T kq) < rw_ (3 : Int) then gnx rw_ (T kq) else T kq) (0 : Int)) kq ((phas (gta rw_ (T kq) ot) on) - (phas (gta rw_ (T kq) ot) ot))).2.2)) from by funext j; simp only [xup]; (repeat' split) <;> first | rfl | omega) (fun h101_ => (by simp only [xsc_ne _ _ h101_, xwr_ne _ _ _ h101_, xsc_ne _ _ h111_, xwr_ne _ _ _ h111_, xsc_ne _ _ h117_, xwr_ne _ _ _ h117_, xsc_ne _ _ h118_, xwr_ne _ _ _ h118_, xsc_ne _ _ h119_, xwr_ne _ _ _ h119_])))))))))))) rfl)))))))⟩⟩))⟩⟩, fun q2833 => ⟨(((h.2.2 q2845).2.1 q2842).2.2 (xb_0 q2833)).1, ⟨(((h.2.2 q2845).2.1 q2842).2.2 (xb_0 q2833)).2.1, ⟨fun q2830 => (xR_memc ((((h.2.2 q2845).2.1 q2842).2.2 (xb_0 q2833)).2.2.1 q2830) (funext fun i => (xpt rfl (fun h119_ => (xpt rfl (fun h118_ => (xpt (show (xup (xup T kq (if gnx rw_ (T kq) < rw_ (3 : Int) then gnx rw_ (T kq) else T kq)) kq (-1 : Int)) = (xup T kq (-1 : Int)) from by funext j; simp only [xup]; (repeat' split) <;> first | rfl | omega) (fun h117_ => (xpt rfl (fun h111_ => (xpt rfl (fun h101_ => (by simp only [xsc_ne _ _ h101_, xwr_ne _ _ _ h101_, xsc_ne _ _ h111_, xwr_ne _ _ _ h111_, xsc_ne _ _ h117_, xwr_ne _ _ _ h117_, xsc_ne _ _ h118_, xwr_ne _ _ _ h118_, xsc_ne _ _ h119_, xwr_ne _ _ _ h119_])))))))))))) rfl), fun q2831 => ⟨((((h.2.2 q2845).2.1 q2842).2.2 (xb_0 q2833)).2.2.2 q2831).1, (xR_cF rfl rfl rfl (c_242 ((((h.2.2 q2845).2.1 q2842).2.2 (xb_0 q2833)).2.2.2 q2831).2.1) (by omega) (sg_245_35  (xR_memc ((((h.2.2 q2845).2.1 q2842).2.2 (xb_0 q2833)).2.2.2 q2831).2.2 (funext fun i => (xpt rfl (fun h119_ => (xpt rfl (fun h118_ => (xpt (show (xup (xup T kq (if gnx rw_ (T kq) < rw_ (3 : Int) then gnx rw_ (T kq) else T kq)) kq (-1 : Int)) = (xup T kq (-1 : Int)) from by funext j; simp only [xup]; (repeat' split) <;> first | rfl | omega) (fun h117_ => (xpt rfl (fun h111_ => (xpt (show (xup (xup (I 101) (35 : Int) ft) (35 : Int) ((giw (X (kq + (-1 : Int))) (B (kq + (-1 : Int))) (ft) (xup (xup T kq (if gnx rw_ (T kq) < rw_ (3 : Int) then gnx rw_ (T kq) else T kq)) kq (-1 : Int) (0 : Int)) (kq + (-1 : Int)) (B ((kq + (-1 : Int)) + (1 : Int)))).2.2)) = (xup (I 101) (35 : Int) ((giw (X (kq + (-1 : Int))) (B (kq + (-1 : Int))) (ft) (xup (xup T kq (if gnx rw_ (T kq) < rw_ (3 : Int) then gnx rw_ (T kq) else T kq)) kq (-1 : Int) (0 : Int)) (kq + (-1 : Int)) (B ((kq + (-1 : Int)) + (1 : Int)))).2.2)) from by funext j; simp only [xup]; (repeat' split) <;> first | rfl | omega) (fun h101_ => (by simp only [xsc_ne _ _ h101_, xwr_ne _ _ _ h101_, xsc_ne _ _ h111_, xwr_ne _ _ _ h111_, xsc_ne _ _ h117_, xwr_ne _ _ _ h117_, xsc_ne _ _ h118_, xwr_ne _ _ _ h118_, xsc_ne _ _ h119_, xwr_ne _ _ _ h119_])))))))))))) rfl)))⟩⟩⟩⟩⟩⟩)), fun q2843 => (xR_cF rfl rfl rfl (c_244 ((h.2.2 q2845).2.2 q2843).1) (by omega) (sg_245_17  ⟨(xb_rg _), ⟨fun q2840 => ⟨⟨(((h.2.2 q2845).2.2 q2843).2.1 (xb_n0 q2840)).1.1, (((h.2.2 q2845).2.2 q2843).2.1 (xb_n0 q2840)).1.2⟩, ⟨fun q2836 => (xR_cF rfl rfl rfl (c_199 ((((h.2.2 q2845).2.2 q2843).2.1 (xb_n0 q2840)).2.1 q2836).1) (by omega) (sg_245_50  (xR_cF rfl rfl rfl (c_199 ((((h.2.2 q2845).2.2 q2843).2.1 (xb_n0 q2840)).2.1 q2836).2.1) (by omega) (sg_245_53  (xR_cF rfl rfl rfl (c_242 ((((h.2.2 q2845).2.2 q2843).2.1 (xb_n0 q2840)).2.1 q2836).2.2.1) (by omega) (sg_245_55  (xR_memc ((((h.2.2 q2845).2.2 q2843).2.1 (xb_n0 q2840)).2.1 q2836).2.2.2 (funext fun i => (xpt rfl (fun h119_ => (xpt rfl (fun h118_ => (xpt rfl (fun h117_ => (xpt rfl (fun h111_ => (xpt (show (xup (xup (I 101) (35 : Int) ft) (35 : Int) ((giw (X kq) (B kq) (ft) (xup T kq (if gnx rw_ (T kq) < rw_ (3 : Int) then gnx rw_ (T kq) else T kq) (0 : Int)) kq ((phas (gta rw_ (T kq) on) on) - (phas (gta rw_ (T kq) on) ot))).2.2)) = (xup (I 101) (35 : Int) ((giw (X kq) (B kq) (ft) (xup T kq (if gnx rw_ (T kq) < rw_ (3 : Int) then gnx rw_ (T kq) else T kq) (0 : Int)) kq ((phas (gta rw_ (T kq) on) on) - (phas (gta rw_ (T kq) on) ot))).2.2)) from by funext j; simp only [xup]; (repeat' split) <;> first | rfl | omega) (fun h101_ => (by simp only [xsc_ne _ _ h101_, xwr_ne _ _ _ h101_, xsc_ne _ _ h111_, xwr_ne _ _ _ h111_, xsc_ne _ _ h117_, xwr_ne _ _ _ h117_, xsc_ne _ _ h118_, xwr_ne _ _ _ h118_, xsc_ne _ _ h119_, xwr_ne _ _ _ h119_])))))))))))) rfl))))))), fun q2837 => (xR_cF rfl rfl rfl (c_197 ((((h.2.2 q2845).2.2 q2843).2.1 (xb_n0 q2840)).2.2 q2837).1) (by omega) (sg_245_44  ⟨((((h.2.2 q2845).2.2 q2843).2.1 (xb_n0 q2840)).2.2 q2837).2.1, ⟨fun q2834 => (xR_cF rfl rfl rfl (c_243 (((((h.2.2 q2845).2.2 q2843).2.1 (xb_n0 q2840)).2.2 q2837).2.2.1 q2834).1) (by omega) (sg_245_60  (xR_memc (((((h.2.2 q2845).2.2 q2843).2.1 (xb_n0 q2840)).2.2 q2837).2.2.1 q2834).2 (funext fun i => (xpt rfl (fun h119_ => (xpt rfl (fun h118_ => (xpt rfl (fun h117_ => (xpt rfl (fun h111_ => (xpt rfl (fun h101_ => (by simp only [xsc_ne _ _ h101_, xwr_ne _ _ _ h101_, xsc_ne _ _ h111_, xwr_ne _ _ _ h111_, xsc_ne _ _ h117_, xwr_ne _ _ _ h117_, xsc_ne _ _ h118_, xwr_ne _ _ _ h118_, xsc_ne _ _ h119_, xwr_ne _ _ _ h119_])))))))))))) rfl))), fun q2835 => (xR_cF rfl rfl rfl (c_199 (((((h.2.2 q2845).2.2 q2843).2.1 (xb_n0 q2840)).2.2 q2837).2.2.2 q2835).1) (by omega) (sg_245_50  (xR_cF rfl rfl rfl (c_199 (((((h.2.2 q2845).2.2 q2843).2.1 (xb_n0 q2840)).2.2 q2837).2.2.2 q2835).2.1) (by omega) (sg_245_53  (xR_cF rfl rfl rfl (c_242 (((((h.2.2 q2845).2.2 q2843).2.1 (xb_n0 q2840)).2.2 q2837).2.2.2 q2835).2.2.1) (by omega) (sg_245_55  (xR_memc (((((h.2.2 q2845).2.2 q2843).2.1 (xb_n0 q2840)).2.2 q2837).2.2.2 q2835).2.2.2 (funext fun i => (xpt rfl (fun h119_ => (xpt rfl (fun h118_ => (xpt rfl (fun h117_ => (xpt rfl (fun h111_ => (xpt (show (xup (xup (I 101) (35 : Int) ft) (35 : Int) ((giw (X kq) (B kq) (ft) (xup T kq (if gnx rw_ (T kq) < rw_ (3 : Int) then gnx rw_ (T kq) else T kq) (0 : Int)) kq ((phas (gta rw_ (T kq) on) on) - (phas (gta rw_ (T kq) on) ot))).2.2)) = (xup (I 101) (35 : Int) ((giw (X kq) (B kq) (ft) (xup T kq (if gnx rw_ (T kq) < rw_ (3 : Int) then gnx rw_ (T kq) else T kq) (0 : Int)) kq ((phas (gta rw_ (T kq) on) on) - (phas (gta rw_ (T kq) on) ot))).2.2)) from by funext j; simp only [xup]; (repeat' split) <;> first | rfl | omega) (fun h101_ => (by simp only [xsc_ne _ _ h101_, xwr_ne _ _ _ h101_, xsc_ne _ _ h111_, xwr_ne _ _ _ h111_, xsc_ne _ _ h117_, xwr_ne _ _ _ h117_, xsc_ne _ _ h118_, xwr_ne _ _ _ h118_, xsc_ne _ _ h119_, xwr_ne _ _ _ h119_])))))))))))) rfl)))))))⟩⟩))⟩⟩, fun q2841 => ⟨(((h.2.2 q2845).2.2 q2843).2.2 (xb_0 q2841)).1, ⟨(((h.2.2 q2845).2.2 q2843).2.2 (xb_0 q2841)).2.1, ⟨fun q2838 => (xR_memc ((((h.2.2 q2845).2.2 q2843).2.2 (xb_0 q2841)).2.2.1 q2838) (funext fun i => (xpt rfl (fun h119_ => (xpt rfl (fun h118_ => (xpt (show (xup (xup T kq (if gnx rw_ (T kq) < rw_ (3 : Int) then gnx rw_ (T kq) else T kq)) kq (-1 : Int)) = (xup T kq (-1 : Int)) from by funext j; simp only [xup]; (repeat' split) <;> first | rfl | omega) (fun h117_ => (xpt rfl (fun h111_ => (xpt rfl (fun h101_ => (by simp only [xsc_ne _ _ h101_, xwr_ne _ _ _ h101_, xsc_ne _ _ h111_, xwr_ne _ _ _ h111_, xsc_ne _ _ h117_, xwr_ne _ _ _ h117_, xsc_ne _ _ h118_, xwr_ne _ _ _ h118_, xsc_ne _ _ h119_, xwr_ne _ _ _ h119_])))))))))))) rfl), fun q2839 => ⟨((((h.2.2 q2845).2.2 q2843).2.2 (xb_0 q2841)).2.2.2 q2839).1, (xR_cF rfl rfl rfl (c_242 ((((h.2.2 q2845).2.2 q2843).2.2 (xb_0 q2841)).2.2.2 q2839).2.1) (by omega) (sg_245_35  (xR_memc ((((h.2.2 q2845).2.2 q2843).2.2 (xb_0 q2841)).2.2.2 q2839).2.2 (funext fun i => (xpt rfl (fun h119_ => (xpt rfl (fun h118_ => (xpt (show (xup (xup T kq (if gnx rw_ (T kq) < rw_ (3 : Int) then gnx rw_ (T kq) else T kq)) kq (-1 : Int)) = (xup T kq (-1 : Int)) from by funext j; simp only [xup]; (repeat' split) <;> first | rfl | omega) (fun h117_ => (xpt rfl (fun h111_ => (xpt (show (xup (xup (I 101) (35 : Int) ft) (35 : Int) ((giw (X (kq + (-1 : Int))) (B (kq + (-1 : Int))) (ft) (xup (xup T kq (if gnx rw_ (T kq) < rw_ (3 : Int) then gnx rw_ (T kq) else T kq)) kq (-1 : Int) (0 : Int)) (kq + (-1 : Int)) (B ((kq + (-1 : Int)) + (1 : Int)))).2.2)) = (xup (I 101) (35 : Int) ((giw (X (kq + (-1 : Int))) (B (kq + (-1 : Int))) (ft) (xup (xup T kq (if gnx rw_ (T kq) < rw_ (3 : Int) then gnx rw_ (T kq) else T kq)) kq (-1 : Int) (0 : Int)) (kq + (-1 : Int)) (B ((kq + (-1 : Int)) + (1 : Int)))).2.2)) from by funext j; simp only [xup]; (repeat' split) <;> first | rfl | omega) (fun h101_ => (by simp only [xsc_ne _ _ h101_, xwr_ne _ _ _ h101_, xsc_ne _ _ h111_, xwr_ne _ _ _ h111_, xsc_ne _ _ h117_, xwr_ne _ _ _ h117_, xsc_ne _ _ h118_, xwr_ne _ _ _ h118_, xsc_ne _ _ h119_, xwr_ne _ _ _ h119_])))))))))))) rfl)))⟩⟩⟩⟩⟩⟩))⟩⟩⟩⟩⟩)
theorem giw_t {X B f t s k w : Int} (h : k = 0 → t = s) : giw X B f t k w = giw X B f s k w := by
  unfold giw
  by_cases q : k = 0
  · rw [h q]
  · rw [if_neg q, if_neg q]
theorem giw_one {X B f t k w : Int} (h : X = 0 ∨ X = 1) : (giw X B f t k w).1 = 1 := by
  unfold giw
  split
  · rfl
  · show X = 1; omega
theorem giw_rg {X B f t k w lo hi : Int} (h : X = 1 → lo ≤ B ∧ B ≤ hi) (hX : X = 0 ∨ X = 1) (hw : lo ≤ w ∧ w ≤ hi) : lo ≤ (giw X B f t k w).2.1 ∧ (giw X B f t k w).2.1 ≤ hi := by
  unfold giw
  split
  · exact hw
  · exact h (by omega)
theorem giw_keep {X B f t k w : Int} (h : ¬ k = 0) : (giw X B f t k w).2.2 = f := by
  unfold giw
  rw [if_neg h]
  split <;> rfl
def pgl (V : (Int → Int) → Int) (k g : Int) (a : Int → Int) : Nat → Int → Int × Int × Int → Int × Int × Int
  | 0, _, st => st
  | r + 1, s, st => pgl V k g a r (s + 1) (if a (11 + s) < 0 then giw st.1 st.2.1 st.2.2 s k (V (xup a (11 + s) g)) else st)
def pgv (on ot : Int) : Nat → Int → (Int → Int) → Int
  | 0, _, a => phas a on - phas a ot
  | m + 1, k, a => if pslices a (-1) = 0 then phas a on - phas a ot else (pgl (pgv on ot m (k + 1)) k (if k % 2 = 0 then on else ot) a (a 3).toNat 0 (0, 0, 0)).2.1
theorem pgl_1 {V : (Int → Int) → Int} {k g : Int} {a : Int → Int} : ∀ (r : Nat) (s : Int) (st : Int × Int × Int), st.1 = 1 → (pgl V k g a r s st).1 = 1 := by
  intro r
  induction r with
  | zero => intro s st h; exact h
  | succ r ih =>
    intro s st h
    unfold pgl
    refine ih _ _ ?_
    split
    · exact giw_one (Or.inr h)
    · exact h
theorem pgl_any {V : (Int → Int) → Int} {k g : Int} {a : Int → Int} : ∀ (r : Nat) (s : Int) (st : Int × Int × Int) (i : Int), (st.1 = 0 ∨ st.1 = 1) → s ≤ i → i < s + (r : Int) → a (11 + i) < 0 → (pgl V k g a r s st).1 = 1 := by
  intro r
  induction r with
  | zero => intro s st i _ h1 h2 _; omega
  | succ r ih =>
    intro s st i h h1 h2 h3
    unfold pgl
    by_cases q : i = s
    · subst q
      rw [if_pos h3]
      exact pgl_1 _ _ _ (giw_one h)
    · refine ih _ _ i ?_ (by omega) (by omega) h3
      split
      · exact Or.inr (giw_one h)
      · exact h
theorem pgl_rg {V : (Int → Int) → Int} {k g lo hi : Int} {a : Int → Int} : ∀ (r : Nat) (s : Int) (st : Int × Int × Int), (st.1 = 0 ∨ st.1 = 1) → (st.1 = 1 → lo ≤ st.2.1 ∧ st.2.1 ≤ hi) → (∀ i, s ≤ i → i < s + (r : Int) → a (11 + i) < 0 → lo ≤ V (xup a (11 + i) g) ∧ V (xup a (11 + i) g) ≤ hi) → ((pgl V k g a r s st).1 = 0 ∨ (pgl V k g a r s st).1 = 1) ∧ ((pgl V k g a r s st).1 = 1 → lo ≤ (pgl V k g a r s st).2.1 ∧ (pgl V k g a r s st).2.1 ≤ hi) := by
  intro r
  induction r with
  | zero => intro s st h1 h2 _; exact ⟨h1, h2⟩
  | succ r ih =>
    intro s st h1 h2 h3
    unfold pgl
    refine ih _ _ ?_ ?_ (fun i i0 i1 => h3 i (by omega) (by omega))
    · split
      · exact Or.inr (giw_one h1)
      · exact h1
    · split
      · intro _
        exact giw_rg h2 h1 (h3 s (by omega) (by omega) (by assumption))
      · exact h2
theorem pgl_keep {V : (Int → Int) → Int} {k g : Int} {a : Int → Int} (hk : ¬ k = 0) : ∀ (r : Nat) (s : Int) (st : Int × Int × Int), (pgl V k g a r s st).2.2 = st.2.2 := by
  intro r
  induction r with
  | zero => intro s st; rfl
  | succ r ih =>
    intro s st
    unfold pgl
    rw [ih]
    split
    · exact giw_keep hk
    · rfl
theorem pgl_eqv {V : (Int → Int) → Int} {k g : Int} {a : Int → Int} : ∀ (r : Nat) (s : Int) (st su : Int × Int × Int), st.1 = su.1 → (st.1 = 0 ∨ st.1 = 1) → (st.1 = 1 → st.2.1 = su.2.1 ∧ (k = 0 → st.2.2 = su.2.2)) → (pgl V k g a r s st).1 = (pgl V k g a r s su).1 ∧ ((pgl V k g a r s st).1 = 1 → (pgl V k g a r s st).2.1 = (pgl V k g a r s su).2.1 ∧ (k = 0 → (pgl V k g a r s st).2.2 = (pgl V k g a r s su).2.2)) := by
  intro r
  induction r with
  | zero => intro s st su h1 h2 h3; exact ⟨h1, h3⟩
  | succ r ih =>
    intro s st su h1 h2 h3
    unfold pgl
    refine ih _ _ _ ?_ ?_ ?_
    · split
      · rw [giw_one h2, giw_one (by rw [← h1]; exact h2)]
      · exact h1
    · split
      · exact Or.inr (giw_one h2)
      · exact h2
    · split
      · intro _
        rcases h2 with h2 | h2
        · have e : su.1 = 0 := by omega
          unfold giw
          rw [if_pos (Or.inl h2), if_pos (Or.inl e)]
          exact ⟨rfl, fun q => by simp only [if_pos q]⟩
        · obtain ⟨e1, e2⟩ := h3 h2
          unfold giw
          rw [← h1, ← e1]
          split
          · exact ⟨rfl, fun q => by simp only [if_pos q]⟩
          · exact ⟨rfl, e2⟩
      · exact h3
theorem pslN_none {a : Int → Int} {g : Int} : ∀ n : Nat, (∀ i : Nat, i < n → ¬ a (11 + (i : Int)) = g) → pslN a g n = 0 := by
  intro n
  induction n with
  | zero => intro _; rfl
  | succ n ih =>
    intro h
    unfold pslN
    rw [if_neg (h n (by omega)), ih (fun i hi => h i (by omega))]
    rfl
theorem pfree {a : Int → Int} (hS : SO a) (h : ¬ pslices a (-1) = 0) : ∃ i : Int, 0 ≤ i ∧ i < a 3 ∧ a (11 + i) = -1 := by
  have hn := hS.n
  refine Classical.byContradiction fun q => h ?_
  unfold pslices
  rw [psl_N _ _ _ (by omega), pslN_none _ fun i hi e => q ⟨(i : Int), by omega, by omega, e⟩]
  rfl
theorem pnx_in {a : Int → Int} : ∀ (q : Nat) (s : Int), a 3 - s ≤ (q : Int) → pnx a q s < a 3 → a (11 + pnx a q s) < 0 := by
  intro q
  induction q with
  | zero => intro s h1 h2; exact absurd h2 (by show ¬ s < a 3; omega)
  | succ q ih =>
    intro s h1 h2
    by_cases h : s < a 3 ∧ 0 ≤ a (11 + s)
    · rw [pnx_pos h] at h2 ⊢
      exact ih _ (by omega) h2
    · rw [pnx_neg h] at h2 ⊢
      omega
theorem pgl_nx {V : (Int → Int) → Int} {k g : Int} {a : Int → Int} : ∀ (q : Nat) (s : Int) (st : Int × Int × Int), a 3 - s ≤ (q : Int) → pgl V k g a (a 3 - s).toNat s st = if pnx a q s < a 3 then pgl V k g a (a 3 - (pnx a q s + 1)).toNat (pnx a q s + 1) (giw st.1 st.2.1 st.2.2 (pnx a q s) k (V (xup a (11 + pnx a q s) g))) else st := by
  intro q
  induction q with
  | zero =>
    intro s st h
    rw [if_neg (by show ¬ s < a 3; omega), show (a 3 - s).toNat = 0 by omega]
    rfl
  | succ q ih =>
    intro s st h
    by_cases h0 : s < a 3
    · have e1 : pgl V k g a ((a 3 - (s + 1)).toNat + 1) s st = pgl V k g a (a 3 - (s + 1)).toNat (s + 1) (if a (11 + s) < 0 then giw st.1 st.2.1 st.2.2 s k (V (xup a (11 + s) g)) else st) := rfl
      rw [show (a 3 - s).toNat = (a 3 - (s + 1)).toNat + 1 by omega, e1]
      by_cases h1 : 0 ≤ a (11 + s)
      · rw [if_neg (show ¬ a (11 + s) < 0 by omega), pnx_pos ⟨h0, h1⟩]
        exact ih _ _ (by omega)
      · rw [if_pos (by omega), pnx_neg (fun r => h1 r.2), if_pos h0]
    · rw [pnx_neg (fun r => h0 r.1), if_neg h0, show (a 3 - s).toNat = 0 by omega]
      rfl
theorem pgv_rg {on ot : Int} (h1 : 0 ≤ on ∧ on < 5) (h2 : 0 ≤ ot ∧ ot < 5) : ∀ (m : Nat) (k : Int) (a : Int → Int), SO a → on < a 4 → ot < a 4 → -810 ≤ pgv on ot m k a ∧ pgv on ot m k a ≤ 810 := by
  intro m
  induction m with
  | zero =>
    intro k a h q1 q2
    have := phas_rg h h1.1 h1.2
    have := phas_rg h h2.1 h2.2
    show -810 ≤ phas a on - phas a ot ∧ phas a on - phas a ot ≤ 810
    omega
  | succ m ih =>
    intro k a h q1 q2
    unfold pgv
    have hn := h.n
    have := phas_rg h h1.1 h1.2
    have := phas_rg h h2.1 h2.2
    split
    · omega
    · rename_i hp
      obtain ⟨i, i0, i1, i2⟩ := pfree h hp
      refine (pgl_rg _ _ _ (Or.inl rfl) (fun q => absurd (show (0 : Int) = 1 from q) (by decide)) ?_).2 (pgl_any _ _ _ i (Or.inl rfl) i0 (by omega) (by omega))
      intro s s0 s1 _
      refine ih _ _ (SO_own h s0 (by omega) (by split <;> omega) (by split <;> assumption)) ?_ ?_
      · rw [xup_ne _ _ (by omega)]; exact q1
      · rw [xup_ne _ _ (by omega)]; exact q2
theorem lp_245 {I : XI} {L : XL} {D : GD} {d : Nat} {post : XQ} {on ot n : Int} (hd : 4 ≤ d) (hon : 0 ≤ on ∧ on < 5) (hot : 0 ≤ ot ∧ ot < 5) (hn4 : n ≤ 4) : ∀ (j : Nat) (k : Int) (a : Int → Int), 0 ≤ k → n = k + 1 + (j : Int) → SO a → on < a 4 → ot < a 4 → ∀ (r : Nat) (rw_ T B X : Int → Int) (ft : Int), a 3 - T k ≤ (r : Int) → gfr rw_ (T k) = a → SO rw_ → (-1 ≤ T k ∧ T k < a 3) → (∀ i, 0 ≤ i → i ≤ k → X i = 0 ∨ X i = 1) → (∀ i, 0 ≤ i → i ≤ k → X i = 1 → -1000 ≤ B i ∧ B i ≤ 1000) → (∀ (rw2 T2 B2 X2 : Int → Int) (f2 : Int), gfr rw2 (T2 k) = a → SO rw2 → (-1 ≤ T2 k ∧ T2 k < a 3) → ¬ gnx rw2 (T2 k) < rw2 3 → (∀ i, 0 ≤ i → i < k → T2 i = T i ∧ B2 i = B i ∧ X2 i = X i) → (X2 k, B2 k, f2) = pgl (pgv on ot j (k + 1)) k (if k % 2 = 0 then on else ot) a (a 3 - (T k + 1)).toNat (T k + 1) (X k, B k, ft) → xR d 245 es_245 5 [xr (some 101), xi on, xi ot, xi n, xi k] [] (xsc (xsc (xsc (xsc (xsc I 101 (xup (I 101) (35 : Int) f2)) 111 rw2) 117 T2) 118 B2) 119 X2) L (gG D) 0 0 post) → xR d 245 es_245 5 [xr (some 101), xi on, xi ot, xi n, xi k] [] (xsc (xsc (xsc (xsc (xsc I 101 (xup (I 101) (35 : Int) ft)) 111 rw_) 117 T) 118 B) 119 X) L (gG D) 0 0 post := by
  intro j
  induction j with
  | zero =>
    intro k a hk hn hS ha1 ha2 r
    have hn3 := hS.n
    induction r with
    | zero => intro rw_ T B X ft hr hg hSr hT; omega
    | succ r ih =>
      intro rw_ T B X ft hr hg hSr hT hX hB hc
      have e3 : rw_ 3 = a 3 := by rw [← hg, gfr_3]
      have eN : gnx rw_ (T k) = pnx a 11 (T k + 1) := by unfold gnx; rw [hg]
      have eP := pgl_nx (V := pgv on ot 0 (k + 1)) (k := k) (g := (if k % 2 = 0 then on else ot)) (a := a) 11 (T k + 1) (X k, B k, ft) (by omega)
      by_cases hq : gnx rw_ (T k) < rw_ 3
      · obtain ⟨s, hs⟩ : ∃ s, gnx rw_ (T k) = s := ⟨_, rfl⟩
        have hs1 : s < a 3 := by omega
        have hs0 := pnx_rg a 11 (T k + 1)
        have hs2 := pnx_in (a := a) 11 (T k + 1) (by omega) (by omega)
        rw [← eN, hs] at eP hs0 hs2
        rw [if_pos hs1] at eP
        have hsw := hS.w (s := s) (by omega) (by omega)
        have eG : ∀ g, gta rw_ (T k) g = xup a (11 + s) g := fun g => by unfold gta; rw [if_pos hq, hg, hs]
        have hG5 : 0 ≤ (if k % 2 = 0 then on else ot) ∧ (if k % 2 = 0 then on else ot) < 5 ∧ (if k % 2 = 0 then on else ot) < a 4 := by split <;> omega
        have hSo : SO (xup a (11 + s) (if k % 2 = 0 then on else ot)) := SO_own hS (by omega) (by omega) (by omega) (by omega)
        have hpo := phas_rg hSo hon.1 hon.2
        have hpt := phas_rg hSo hot.1 hot.2
        have hps := pslices_rg hSo (-1)
        have h1G : SO (xup a (11 + s) (if k % 2 = 0 then on else ot)) ∧ (-2147483648 ≤ (-1 : Int) ∧ (-1 : Int) ≤ 2147483647) := ⟨hSo, by decide⟩
        have hXk := hX k hk (Int.le_refl _)
        have hBk := hB k hk (Int.le_refl _)
        have stepA := ih (xup a (11 + s) (if k % 2 = 0 then on else ot)) (xup T k s) (xup B k (giw (X k) (B k) ft s k (phas (xup a (11 + s) (if k % 2 = 0 then on else ot)) on - phas (xup a (11 + s) (if k % 2 = 0 then on else ot)) ot)).2.1) (xup X k (giw (X k) (B k) ft s k (phas (xup a (11 + s) (if k % 2 = 0 then on else ot)) on - phas (xup a (11 + s) (if k % 2 = 0 then on else ot)) ot)).1) (giw (X k) (B k) ft s k (phas (xup a (11 + s) (if k % 2 = 0 then on else ot)) on - phas (xup a (11 + s) (if k % 2 = 0 then on else ot)) ot)).2.2 (by rw [xup_same]; omega) (by rw [xup_same]; unfold gfr; rw [if_pos (by omega), xup_up, show (-1 : Int) = a (11 + s) by omega, xup_self]) hSo (by rw [xup_same]; omega) (fun i i0 i1 => by
          by_cases q : i = k
          · subst q; rw [xup_same]; exact Or.inr (giw_one hXk)
          · rw [xup_ne _ _ q]; exact hX i i0 i1) (fun i i0 i1 => by
          by_cases q : i = k
          · subst q; rw [xup_same, xup_same]; intro _; exact giw_rg hBk hXk (by omega)
          · rw [xup_ne _ _ q, xup_ne _ _ q]; exact hB i i0 i1) (fun rw2 T2 B2 X2 f2 g1 g2 g3 g4 g5 g6 => hc rw2 T2 B2 X2 f2 g1 g2 g3 g4 (fun i i0 i1 => by
            have := g5 i i0 i1
            rw [xup_ne _ _ (by omega), xup_ne _ _ (by omega), xup_ne _ _ (by omega)] at this
            exact this) (by
            rw [eP, g6, xup_same, xup_same, xup_same]
            rfl))
        have ht0 : (xup T k s) 0 = (xup T k s) 0 := rfl
        have ekm : Int.tmod k 2 = k % 2 := Int.tmod_eq_emod_of_nonneg hk
        refine b_245 (by omega) ?_
        simp only [eG, hs, e3, if_pos hs1, ekm, giw_t (X := X k) (B := B k) (f := ft) (t := xup T k s 0) (s := s) (k := k) (fun q => by subst q; exact xup_same _ _ _)]
        by_cases qk : k % 2 = 0
        · simp only [if_pos qk] at stepA hSo hpo hpt hps h1G
          repeat' first | (with_reducible intro _) | (with_reducible refine And.intro ?_ ?_)
          all_goals first | omega | assumption | exact ⟨hSr, hT⟩ | (refine ⟨⟨by omega, by omega⟩, hSr, by omega⟩) | exact ⟨hSo, by omega⟩ | skip
        · simp only [if_neg qk] at stepA hSo hpo hpt hps h1G
          repeat' first | (with_reducible intro _) | (with_reducible refine And.intro ?_ ?_)
          all_goals first | omega | assumption | exact ⟨hSr, hT⟩ | (refine ⟨⟨by omega, by omega⟩, hSr, by omega⟩) | exact ⟨hSo, by omega⟩ | skip
      · rw [if_neg (show ¬ pnx a 11 (T k + 1) < a 3 by rw [← eN, ← e3]; exact hq)] at eP
        exact hc rw_ T B X ft hg hSr hT hq (fun i _ _ => ⟨rfl, rfl, rfl⟩) eP.symm
  | succ j ihj =>
    intro k a hk hn hS ha1 ha2 r
    have hn3 := hS.n
    induction r with
    | zero => intro rw_ T B X ft hr hg hSr hT; omega
    | succ r ih =>
      intro rw_ T B X ft hr hg hSr hT hX hB hc
      have e3 : rw_ 3 = a 3 := by rw [← hg, gfr_3]
      have eN : gnx rw_ (T k) = pnx a 11 (T k + 1) := by unfold gnx; rw [hg]
      have eP := pgl_nx (V := pgv on ot (j + 1) (k + 1)) (k := k) (g := (if k % 2 = 0 then on else ot)) (a := a) 11 (T k + 1) (X k, B k, ft) (by omega)
      by_cases hq : gnx rw_ (T k) < rw_ 3
      · obtain ⟨s, hs⟩ : ∃ s, gnx rw_ (T k) = s := ⟨_, rfl⟩
        have hs1 : s < a 3 := by omega
        have hs0 := pnx_rg a 11 (T k + 1)
        have hs2 := pnx_in (a := a) 11 (T k + 1) (by omega) (by omega)
        rw [← eN, hs] at eP hs0 hs2
        rw [if_pos hs1] at eP
        have hsw := hS.w (s := s) (by omega) (by omega)
        have eG : ∀ g, gta rw_ (T k) g = xup a (11 + s) g := fun g => by unfold gta; rw [if_pos hq, hg, hs]
        have hG5 : 0 ≤ (if k % 2 = 0 then on else ot) ∧ (if k % 2 = 0 then on else ot) < 5 ∧ (if k % 2 = 0 then on else ot) < a 4 := by split <;> omega
        have hSo : SO (xup a (11 + s) (if k % 2 = 0 then on else ot)) := SO_own hS (by omega) (by omega) (by omega) (by omega)
        have hpo := phas_rg hSo hon.1 hon.2
        have hpt := phas_rg hSo hot.1 hot.2
        have hps := pslices_rg hSo (-1)
        have h1G : SO (xup a (11 + s) (if k % 2 = 0 then on else ot)) ∧ (-2147483648 ≤ (-1 : Int) ∧ (-1 : Int) ≤ 2147483647) := ⟨hSo, by decide⟩
        have hXk := hX k hk (Int.le_refl _)
        have hBk := hB k hk (Int.le_refl _)
        have ev : pgv on ot (j + 1) (k + 1) (xup a (11 + s) (if k % 2 = 0 then on else ot)) = if pslices (xup a (11 + s) (if k % 2 = 0 then on else ot)) (-1) = 0 then phas (xup a (11 + s) (if k % 2 = 0 then on else ot)) on - phas (xup a (11 + s) (if k % 2 = 0 then on else ot)) ot else (pgl (pgv on ot j (k + 1 + 1)) (k + 1) (if (k + 1) % 2 = 0 then on else ot) (xup a (11 + s) (if k % 2 = 0 then on else ot)) (xup a (11 + s) (if k % 2 = 0 then on else ot) 3).toNat 0 (0, 0, 0)).2.1 := rfl
        have stepA : pslices (xup a (11 + s) (if k % 2 = 0 then on else ot)) (-1) = 0 → _ := fun hz => ih (xup a (11 + s) (if k % 2 = 0 then on else ot)) (xup T k s) (xup B k (giw (X k) (B k) ft s k (phas (xup a (11 + s) (if k % 2 = 0 then on else ot)) on - phas (xup a (11 + s) (if k % 2 = 0 then on else ot)) ot)).2.1) (xup X k (giw (X k) (B k) ft s k (phas (xup a (11 + s) (if k % 2 = 0 then on else ot)) on - phas (xup a (11 + s) (if k % 2 = 0 then on else ot)) ot)).1) (giw (X k) (B k) ft s k (phas (xup a (11 + s) (if k % 2 = 0 then on else ot)) on - phas (xup a (11 + s) (if k % 2 = 0 then on else ot)) ot)).2.2 (by rw [xup_same]; omega) (by rw [xup_same]; unfold gfr; rw [if_pos (by omega), xup_up, show (-1 : Int) = a (11 + s) by omega, xup_self]) hSo (by rw [xup_same]; omega) (fun i i0 i1 => by
          by_cases q : i = k
          · subst q; rw [xup_same]; exact Or.inr (giw_one hXk)
          · rw [xup_ne _ _ q]; exact hX i i0 i1) (fun i i0 i1 => by
          by_cases q : i = k
          · subst q; rw [xup_same, xup_same]; intro _; exact giw_rg hBk hXk (by omega)
          · rw [xup_ne _ _ q, xup_ne _ _ q]; exact hB i i0 i1) (fun rw2 T2 B2 X2 f2 g1 g2 g3 g4 g5 g6 => hc rw2 T2 B2 X2 f2 g1 g2 g3 g4 (fun i i0 i1 => by
            have := g5 i i0 i1
            rw [xup_ne _ _ (by omega), xup_ne _ _ (by omega), xup_ne _ _ (by omega)] at this
            exact this) (by
            rw [eP, g6, xup_same, xup_same, xup_same, ev, if_pos hz]))
        have stepB : ¬ pslices (xup a (11 + s) (if k % 2 = 0 then on else ot)) (-1) = 0 → xR d 245 es_245 5 [xr (some 101), xi on, xi ot, xi n, xi (k + 1)] [] (xsc (xsc (xsc (xsc (xsc I 101 (xup (I 101) (35 : Int) ft)) 111 (xup a (11 + s) (if k % 2 = 0 then on else ot))) 117 (xup (xup T k s) (k + 1) (-1))) 118 B) 119 (xup X (k + 1) 0)) L (gG D) 0 0 post := by
          intro hz
          obtain ⟨i9, i90, i91, i92⟩ := pfree hSo hz
          have e43 : xup a (11 + s) (if k % 2 = 0 then on else ot) 3 = a 3 := xup_ne _ _ (by omega)
          have e44 : xup a (11 + s) (if k % 2 = 0 then on else ot) 4 = a 4 := xup_ne _ _ (by omega)
          rw [e43] at i91
          refine ihj (k + 1) (xup a (11 + s) (if k % 2 = 0 then on else ot)) (by omega) (by omega) hSo (by omega) (by omega) 11 _ _ _ _ _ ?_ ?_ hSo ?_ ?_ ?_ ?_
          · rw [xup_same, e43]; omega
          · rw [xup_same]; exact if_neg (by decide)
          · rw [xup_same, e43]; omega
          · intro i i0 i1
            by_cases q : i = k + 1
            · subst q; rw [xup_same]; exact Or.inl rfl
            · rw [xup_ne _ _ q]; exact hX i i0 (by omega)
          · intro i i0 i1
            by_cases q : i = k + 1
            · subst q; rw [xup_same]; intro q2; exact absurd q2 (by decide)
            · rw [xup_ne _ _ q]; exact hB i i0 (by omega)
          intro rw2 T2 B2 X2 f2 hg2 hS2 hT2 hq2 hag hst
          rw [xup_same, xup_same, e43, show (a 3 - (-1 + 1)).toNat = (a 3).toNat by omega, show (-1 : Int) + 1 = 0 by omega] at hst
          have hk0 := hag k hk (by omega)
          rw [xup_ne _ _ (by omega), xup_same, xup_ne _ _ (by omega)] at hk0
          obtain ⟨hk1, hk2, hk3⟩ := hk0
          have hft : f2 = ft := by
            have := pgl_keep (V := pgv on ot j (k + 1 + 1)) (k := k + 1) (g := if (k + 1) % 2 = 0 then on else ot) (a := xup a (11 + s) (if k % 2 = 0 then on else ot)) (by omega) (a 3).toNat 0 (0, B (k + 1), ft)
            rw [← hst] at this
            exact this
          have hany := pgl_any (V := pgv on ot j (k + 1 + 1)) (k := k + 1) (g := if (k + 1) % 2 = 0 then on else ot) (a := xup a (11 + s) (if k % 2 = 0 then on else ot)) (a 3).toNat 0 (0, B (k + 1), ft) i9 (Or.inl rfl) (by omega) (by omega) (by omega)
          have hev := pgl_eqv (V := pgv on ot j (k + 1 + 1)) (k := k + 1) (g := if (k + 1) % 2 = 0 then on else ot) (a := xup a (11 + s) (if k % 2 = 0 then on else ot)) (a 3).toNat 0 (0, B (k + 1), ft) (0, 0, 0) rfl (Or.inl rfl) (fun q => absurd (show (0 : Int) = 1 from q) (by decide))
          have hv := (hev.2 hany).1
          rw [← hst] at hv
          have hv2 : B2 (k + 1) = pgv on ot (j + 1) (k + 1) (xup a (11 + s) (if k % 2 = 0 then on else ot)) := by rw [ev, if_neg hz, e43]; exact hv
          have hvr := pgv_rg hon hot (j + 1) (k + 1) (xup a (11 + s) (if k % 2 = 0 then on else ot)) hSo (by omega) (by omega)
          have e32 : rw2 3 = xup a (11 + s) (if k % 2 = 0 then on else ot) 3 := by rw [← hg2, gfr_3]
          have eG2 : ∀ g, gta rw2 (T2 (k + 1)) g = xup a (11 + s) (if k % 2 = 0 then on else ot) := fun g => by unfold gta; rw [if_neg hq2, hg2]
          have stepC := ih (xup a (11 + s) (if k % 2 = 0 then on else ot)) (xup T2 (k + 1) (-1)) (xup B2 k (giw (X k) (B k) ft s k (B2 (k + 1))).2.1) (xup X2 k (giw (X k) (B k) ft s k (B2 (k + 1))).1) (giw (X k) (B k) ft s k (B2 (k + 1))).2.2 (by rw [xup_ne _ _ (by omega)]; omega) (by rw [xup_ne _ _ (by omega), hk1]; unfold gfr; rw [if_pos (by omega), xup_up, show (-1 : Int) = a (11 + s) by omega, xup_self]) hSo (by rw [xup_ne _ _ (by omega)]; omega) (fun i i0 i1 => by
            by_cases q : i = k
            · subst q; rw [xup_same]; exact Or.inr (giw_one hXk)
            · have := hag i i0 (by omega)
              rw [xup_ne _ _ q, this.2.2, xup_ne _ _ (by omega)]; exact hX i i0 i1) (fun i i0 i1 => by
            by_cases q : i = k
            · subst q; rw [xup_same, xup_same]; intro _; exact giw_rg hBk hXk (by omega)
            · have := hag i i0 (by omega)
              rw [xup_ne _ _ q, xup_ne _ _ q, this.2.2, this.2.1, xup_ne _ _ (by omega)]; exact hB i i0 i1) (fun rw3 T3 B3 X3 f3 g1 g2 g3 g4 g5 g6 => hc rw3 T3 B3 X3 f3 g1 g2 g3 g4 (fun i i0 i1 => by
              have := g5 i i0 i1
              rw [xup_ne _ _ (by omega), xup_ne _ _ (by omega), xup_ne _ _ (by omega)] at this
              have h9 := hag i i0 (by omega)
              rw [xup_ne _ _ (by omega), xup_ne _ _ (by omega), xup_ne _ _ (by omega)] at h9
              exact ⟨this.1.trans h9.1, this.2.1.trans h9.2.1, this.2.2.trans h9.2.2⟩) (by
              rw [eP, g6, xup_same, xup_same, xup_ne _ _ (by omega), hk1, hv2]))
          have ekk2 : k + 1 + -1 = k := by omega
          have ekm2 : Int.tmod (k + 1) 2 = (k + 1) % 2 := Int.tmod_eq_emod_of_nonneg (by omega)
          refine b_245 (by omega) ?_
          simp only [eG2, ekk2, ekm2, hk2, hk3, hft, if_neg hq2, giw_t (X := X k) (B := B k) (f := ft) (t := xup (xup T2 (k + 1) (T2 (k + 1))) (k + 1) (-1) 0) (s := s) (k := k) (fun q => by rw [xup_ne _ _ (by omega), xup_ne _ _ (by omega), ← q]; exact hk1)]
          repeat' first | (with_reducible intro _) | (with_reducible refine And.intro ?_ ?_)
          all_goals first | omega | assumption | exact ⟨hS2, hT2⟩ | (exact absurd (by assumption) hq2) | (refine ⟨⟨by omega, by omega⟩, hS2, by omega⟩) | skip
        have ekm : Int.tmod k 2 = k % 2 := Int.tmod_eq_emod_of_nonneg hk
        refine b_245 (by omega) ?_
        simp only [eG, hs, e3, if_pos hs1, ekm, giw_t (X := X k) (B := B k) (f := ft) (t := xup T k s 0) (s := s) (k := k) (fun q => by subst q; exact xup_same _ _ _)]
        by_cases qk : k % 2 = 0
        · simp only [if_pos qk] at stepA stepB hSo hpo hpt hps h1G
          repeat' first | (with_reducible intro _) | (with_reducible refine And.intro ?_ ?_)
          all_goals first | omega | assumption | exact stepA (by assumption) | exact stepB (by assumption) | exact ⟨hSr, hT⟩ | (refine ⟨⟨by omega, by omega⟩, hSr, by omega⟩) | exact ⟨hSo, by omega⟩ | skip
        · simp only [if_neg qk] at stepA stepB hSo hpo hpt hps h1G
          repeat' first | (with_reducible intro _) | (with_reducible refine And.intro ?_ ?_)
          all_goals first | omega | assumption | exact stepA (by assumption) | exact stepB (by assumption) | exact ⟨hSr, hT⟩ | (refine ⟨⟨by omega, by omega⟩, hSr, by omega⟩) | exact ⟨hSo, by omega⟩ | skip
      · rw [if_neg (show ¬ pnx a 11 (T k + 1) < a 3 by rw [← eN, ← e3]; exact hq)] at eP
        exact hc rw_ T B X ft hg hSr hT hq (fun i _ _ => ⟨rfl, rfl, rfl⟩) eP.symm
theorem c_245 {I : XI} {L : XL} {D : GD}   {on : Int} {ot : Int} {n : Int} (h : (SO (I 111) ∧ (0 ≤ on ∧ on < I 111 (4 : Int)) ∧ (0 ≤ ot ∧ ot < I 111 (4 : Int)) ∧ (1 ≤ n ∧ n ≤ 4) ∧ ¬ pslices (I 111) (-1) = 0)) : xM 4 245 [xr (some 101), xi on, xi ot, xi n] I L (gG D) (0, 0) (fun r2 I2 L2 G2 => ∃ (T2 : Int → Int) (B2 : Int → Int) (X2 : Int → Int), B2 0 = (pgl (pgv on ot (n - 1).toNat 1) 0 on (I 111) ((I 111) 3).toNat 0 (0, 0, 0)).2.1 ∧ r2 = none ∧ I2 = (xsc (xsc (xsc (xsc (xsc I 101 (xup (I 101) (35 : Int) ((pgl (pgv on ot (n - 1).toNat 1) 0 on (I 111) ((I 111) 3).toNat 0 (0, 0, 0)).2.2))) 111 (I 111)) 117 T2) 118 B2) 119 X2) ∧ L2 = L ∧ G2 = (gG D)) := by
  intro d hd
  obtain ⟨hS, h1, h2, h3, h4⟩ := h
  have hn := hS.n
  have hg := hS.g
  obtain ⟨i9, i90, i91, i92⟩ := pfree hS h4
  have hany := pgl_any (V := pgv on ot (n - 1).toNat 1) (k := 0) (g := on) (a := I 111) (I 111 3).toNat 0 (0, I 118 0, I 101 35) i9 (Or.inl rfl) (by omega) (by omega) (by omega)
  have hev := pgl_eqv (V := pgv on ot (n - 1).toNat 1) (k := 0) (g := on) (a := I 111) (I 111 3).toNat 0 (0, I 118 0, I 101 35) (0, 0, 0) rfl (Or.inl rfl) (fun q => absurd (show (0 : Int) = 1 from q) (by decide))
  have hv := hev.2 hany
  refine w_245 (by omega) ?_
  refine ⟨by omega, ?_⟩
  refine xR_memc (I2 := (xsc (xsc (xsc (xsc (xsc I 101 (xup (I 101) (35 : Int) (I 101 35))) 111 (I 111)) 117 (xup (I 117) 0 (-1))) 118 (I 118)) 119 (xup (I 119) 0 0))) (L2 := L) ?_ (by (funext i; by_cases h101 : i = 101; (subst h101; first | rfl | exact (xcp_zero _ _ _ _).symm | exact (xup_self _ _).symm | exact (xup_self2 _ _ _).symm | exact (xup_self3 _ _ _ _).symm | exact xup_self _ _); by_cases h111 : i = 111; (subst h111; first | rfl | exact (xcp_zero _ _ _ _).symm | exact (xup_self _ _).symm | exact (xup_self2 _ _ _).symm | exact (xup_self3 _ _ _ _).symm | exact xup_self _ _); by_cases h117 : i = 117; (subst h117; first | rfl | exact (xcp_zero _ _ _ _).symm | exact (xup_self _ _).symm | exact (xup_self2 _ _ _).symm | exact (xup_self3 _ _ _ _).symm | exact xup_self _ _); by_cases h118 : i = 118; (subst h118; first | rfl | exact (xcp_zero _ _ _ _).symm | exact (xup_self _ _).symm | exact (xup_self2 _ _ _).symm | exact (xup_self3 _ _ _ _).symm | exact xup_self _ _); by_cases h119 : i = 119; (subst h119; first | rfl | exact (xcp_zero _ _ _ _).symm | exact (xup_self _ _).symm | exact (xup_self2 _ _ _).symm | exact (xup_self3 _ _ _ _).symm | exact xup_self _ _); first | rfl | simp only [xsc_ne _ _ h101, xsc_ne _ _ h111, xsc_ne _ _ h117, xsc_ne _ _ h118, xsc_ne _ _ h119])) rfl
  refine lp_245 (by omega) (by omega) (by omega) (by omega) (n - 1).toNat 0 (I 111) (by omega) (by omega) hS (by omega) (by omega) 11 _ _ _ _ _ ?_ ?_ hS ?_ ?_ ?_ ?_
  · rw [xup_same]; omega
  · rw [xup_same]; exact if_neg (by decide)
  · rw [xup_same]; omega
  · intro i i0 i1
    have : i = 0 := by omega
    subst this; rw [xup_same]; exact Or.inl rfl
  · intro i i0 i1
    have : i = 0 := by omega
    subst this; rw [xup_same]; intro q2; exact absurd q2 (by decide)
  intro rw2 T2 B2 X2 f2 hg2 hS2 hT2 hq2 hag hst
  rw [xup_same, xup_same, show (I 111 3 - (-1 + 1)).toNat = (I 111 3).toNat by omega, show (-1 : Int) + 1 = 0 by omega, show (0 : Int) + 1 = 1 by omega, if_pos (by decide)] at hst
  have eG2 : ∀ g, gta rw2 (T2 0) g = I 111 := fun g => by unfold gta; rw [if_neg hq2, hg2]
  have hB : B2 0 = (pgl (pgv on ot (n - 1).toNat 1) 0 on (I 111) (I 111 3).toNat 0 (0, I 118 0, I 101 35)).2.1 := by rw [← hst]
  have hF : f2 = (pgl (pgv on ot (n - 1).toNat 1) 0 on (I 111) (I 111 3).toNat 0 (0, I 118 0, I 101 35)).2.2 := by rw [← hst]
  rw [hv.1] at hB
  rw [hv.2 rfl] at hF
  have e32 : rw2 3 = I 111 3 := by rw [← hg2, gfr_3]
  refine b_245 (by omega) ?_
  simp only [eG2, hF, if_neg hq2]
  repeat' first | (with_reducible intro _) | (with_reducible refine And.intro ?_ ?_)
  all_goals first | omega | assumption | exact ⟨hS2, hT2⟩ | (exact absurd (by assumption) hq2) | (refine ⟨⟨by omega, by omega⟩, hS2, by omega⟩) | decide | (exact absurd (by assumption) (by decide)) | skip
  all_goals (
    refine b_245 (by omega) ?_
    repeat' first | (with_reducible intro _) | (with_reducible refine And.intro ?_ ?_)
    all_goals first | omega | (exact absurd (by assumption) (by decide)) | skip
    exact ⟨_, _, _, hB, rfl, rfl, rfl, rfl⟩)
def qgame (a : Int → Int) (on ot n what : Int) : Int := if pslices a (-1) = 0 then (if what = 0 then phas a on - phas a ot else -1) else if what = 0 then (pgl (pgv on ot (n - 1).toNat 1) 0 on a (a 3).toNat 0 (0, 0, 0)).2.1 else (pgl (pgv on ot (n - 1).toNat 1) 0 on a (a 3).toNat 0 (0, 0, 0)).2.2
set_option maxRecDepth 8000 in
theorem sg_246_0 {d : Nat} {I : XI} {L : XL} {D : GD} {post : XQ}  {u1 : Int} {u2 : Int} {u3 : Int} {u4 : Int} (h : xR d 246 es_246 2 [xr (some 101), xi u1, xi u2, xi u3, xi u4] [xi u1, xr (some 101)] I L (gG D) 0 0 post) : xR d 246 es_246 0 [xr (some 101), xi u1, xi u2, xi u3, xi u4] [] I L (gG D) 0 0 post := xW_R (fun k => Nat.beq k 2 || Nat.beq k 6 || Nat.beq k 15 || Nat.beq k 21 || Nat.beq k 27 || Nat.beq k 33 || Nat.beq k 36 || Nat.beq k 42 || Nat.beq k 47 || Nat.beq k 49) 2 _ _ _ _ _ _ _ _ _ _ _ _ h
set_option maxRecDepth 8000 in
theorem sg_246_3 {d : Nat} {I : XI} {L : XL} {D : GD} {post : XQ}  {u1 : Int} {u2 : Int} {u3 : Int} {u4 : Int} {w0 : Int} (h : ((-2147483648 ≤ w0 ∧ w0 ≤ 2147483647) ∧ ((w0 = 0 → post (some (xi (-1000 : Int))) I L (gG D)) ∧ (¬ w0 = 0 → xR d 246 es_246 6 [xr (some 101), xi u1, xi u2, xi u3, xi u4] [xi u2, xr (some 101)] I L (gG D) 0 0 post)))) : xR d 246 es_246 3 [xr (some 101), xi u1, xi u2, xi u3, xi u4] [xi w0] I L (gG D) 0 0 post := xW_R (fun k => Nat.beq k 2 || Nat.beq k 6 || Nat.beq k 15 || Nat.beq k 21 || Nat.beq k 27 || Nat.beq k 33 || Nat.beq k 36 || Nat.beq k 42 || Nat.beq k 47 || Nat.beq k 49) 3 _ _ _ _ _ _ _ _ _ _ _ _ h
set_option maxRecDepth 8000 in
theorem sg_246_7 {d : Nat} {I : XI} {L : XL} {D : GD} {post : XQ}  {u1 : Int} {u2 : Int} {u3 : Int} {u4 : Int} {w0 : Int} (h : ((-2147483648 ≤ w0 ∧ w0 ≤ 2147483647) ∧ ((w0 = 0 → post (some (xi (-1000 : Int))) I L (gG D)) ∧ (¬ w0 = 0 → (((-2147483648 ≤ u1 ∧ u1 ≤ 2147483647) ∧ (-2147483648 ≤ u2 ∧ u2 ≤ 2147483647)) ∧ ((u1 = u2 → post (some (xi (-1000 : Int))) I L (gG D)) ∧ (¬ u1 = u2 → ((-2147483648 ≤ u3 ∧ u3 ≤ 2147483647) ∧ xR d 246 es_246 15 [xr (some 101), xi u1, xi u2, xi u3, xi u4] [xl (Int64.ofInt 4), xl (1 : Int64), xl (Int64.ofInt u3)] I L (gG D) 0 0 post)))))))) : xR d 246 es_246 7 [xr (some 101), xi u1, xi u2, xi u3, xi u4] [xi w0] I L (gG D) 0 0 post := xW_R (fun k => Nat.beq k 2 || Nat.beq k 6 || Nat.beq k 15 || Nat.beq k 21 || Nat.beq k 27 || Nat.beq k 33 || Nat.beq k 36 || Nat.beq k 42 || Nat.beq k 47 || Nat.beq k 49) 8 _ _ _ _ _ _ _ _ _ _ _ _ h
set_option maxRecDepth 8000 in
theorem sg_246_16 {d : Nat} {I : XI} {L : XL} {D : GD} {post : XQ}  {u1 : Int} {u2 : Int} {u3 : Int} {u4 : Int} {w0 : Int} (h : ((-2147483648 ≤ w0 ∧ w0 ≤ 2147483647) ∧ ((w0 = 0 → post (some (xi (-1000 : Int))) I L (gG D)) ∧ (¬ w0 = 0 → ((-2147483648 ≤ u4 ∧ u4 ≤ 2147483647) ∧ xR d 246 es_246 21 [xr (some 101), xi u1, xi u2, xi u3, xi u4] [xl (1 : Int64), xl (0 : Int64), xl (Int64.ofInt u4)] I L (gG D) 0 0 post))))) : xR d 246 es_246 16 [xr (some 101), xi u1, xi u2, xi u3, xi u4] [xi w0] I L (gG D) 0 0 post := xW_R (fun k => Nat.beq k 2 || Nat.beq k 6 || Nat.beq k 15 || Nat.beq k 21 || Nat.beq k 27 || Nat.beq k 33 || Nat.beq k 36 || Nat.beq k 42 || Nat.beq k 47 || Nat.beq k 49) 5 _ _ _ _ _ _ _ _ _ _ _ _ h
set_option maxRecDepth 8000 in
theorem sg_246_22 {d : Nat} {I : XI} {L : XL} {D : GD} {post : XQ}  {u1 : Int} {u2 : Int} {u3 : Int} {u4 : Int} {w0 : Int} (h : ((-2147483648 ≤ w0 ∧ w0 ≤ 2147483647) ∧ ((¬ w0 = 0 → xR d 246 es_246 27 [xr (some 101), xi u1, xi u2, xi u3, xi u4] [xi (-1 : Int), xr (some 101)] I L (gG D) 0 0 post) ∧ (w0 = 0 → post (some (xi (-1000 : Int))) I L (gG D))))) : xR d 246 es_246 22 [xr (some 101), xi u1, xi u2, xi u3, xi u4] [xi w0] I L (gG D) 0 0 post := xW_R (fun k => Nat.beq k 2 || Nat.beq k 6 || Nat.beq k 15 || Nat.beq k 21 || Nat.beq k 27 || Nat.beq k 33 || Nat.beq k 36 || Nat.beq k 42 || Nat.beq k 47 || Nat.beq k 49) 3 _ _ _ _ _ _ _ _ _ _ _ _ h
set_option maxRecDepth 8000 in
theorem sg_246_28 {d : Nat} {I : XI} {L : XL} {D : GD} {post : XQ}  {u1 : Int} {u2 : Int} {u3 : Int} {u4 : Int} {w0 : Int} (h : ((-2147483648 ≤ w0 ∧ w0 ≤ 2147483647) ∧ ((¬ w0 = 0 → xR d 246 es_246 42 [xr (some 101), xi u1, xi u2, xi u3, xi u4] [xr (some 101)] I L (gG D) 0 0 post) ∧ (w0 = 0 → ((-2147483648 ≤ u4 ∧ u4 ≤ 2147483647) ∧ ((¬ u4 = 0 → post (some (xi (-1 : Int))) I L (gG D)) ∧ (u4 = 0 → xR d 246 es_246 33 [xr (some 101), xi u1, xi u2, xi u3, xi u4] [xi u1, xr (some 101)] I L (gG D) 0 0 post))))))) : xR d 246 es_246 28 [xr (some 101), xi u1, xi u2, xi u3, xi u4] [xi w0] I L (gG D) 0 0 post := xW_R (fun k => Nat.beq k 2 || Nat.beq k 6 || Nat.beq k 15 || Nat.beq k 21 || Nat.beq k 27 || Nat.beq k 33 || Nat.beq k 36 || Nat.beq k 42 || Nat.beq k 47 || Nat.beq k 49) 5 _ _ _ _ _ _ _ _ _ _ _ _ h
set_option maxRecDepth 8000 in
theorem sg_246_43 {d : Nat} {I : XI} {L : XL} {D : GD} {post : XQ}  {u1 : Int} {u2 : Int} {u3 : Int} {u4 : Int} (h : xR d 246 es_246 47 [xr (some 101), xi u1, xi u2, xi u3, xi u4] [xi u3, xi u2, xi u1, xr (some 101)] I L (gG D) 0 0 post) : xR d 246 es_246 43 [xr (some 101), xi u1, xi u2, xi u3, xi u4] [] I L (gG D) 0 0 post := xW_R (fun k => Nat.beq k 2 || Nat.beq k 6 || Nat.beq k 15 || Nat.beq k 21 || Nat.beq k 27 || Nat.beq k 33 || Nat.beq k 36 || Nat.beq k 42 || Nat.beq k 47 || Nat.beq k 49) 4 _ _ _ _ _ _ _ _ _ _ _ _ h
set_option maxRecDepth 8000 in
theorem sg_246_48 {d : Nat} {I : XI} {L : XL} {D : GD} {post : XQ}  {u1 : Int} {u2 : Int} {u3 : Int} {u4 : Int} (h : xR d 246 es_246 49 [xr (some 101), xi u1, xi u2, xi u3, xi u4] [xr (some 101)] I L (gG D) 0 0 post) : xR d 246 es_246 48 [xr (some 101), xi u1, xi u2, xi u3, xi u4] [] I L (gG D) 0 0 post := xW_R (fun k => Nat.beq k 2 || Nat.beq k 6 || Nat.beq k 15 || Nat.beq k 21 || Nat.beq k 27 || Nat.beq k 33 || Nat.beq k 36 || Nat.beq k 42 || Nat.beq k 47 || Nat.beq k 49) 1 _ _ _ _ _ _ _ _ _ _ _ _ h
set_option maxRecDepth 8000 in
theorem sg_246_50 {d : Nat} {I : XI} {L : XL} {D : GD} {post : XQ}  {u1 : Int} {u2 : Int} {u3 : Int} {u4 : Int} (h : ((-2147483648 ≤ u4 ∧ u4 ≤ 2147483647) ∧ ((¬ u4 = 0 → post (some (xi (I 101 (35 : Int)))) I L (gG D)) ∧ (u4 = 0 → ((0 ≤ (0 : Int) ∧ (0 : Int) < (5 : Int)) ∧ post (some (xi (I 118 (0 : Int)))) I L (gG D)))))) : xR d 246 es_246 50 [xr (some 101), xi u1, xi u2, xi u3, xi u4] [] I L (gG D) 0 0 post := xW_R (fun k => Nat.beq k 2 || Nat.beq k 6 || Nat.beq k 15 || Nat.beq k 21 || Nat.beq k 27 || Nat.beq k 33 || Nat.beq k 36 || Nat.beq k 42 || Nat.beq k 47 || Nat.beq k 49) 8 _ _ _ _ _ _ _ _ _ _ _ _ h
set_option maxRecDepth 8000 in
theorem sg_246_34 {d : Nat} {I : XI} {L : XL} {D : GD} {post : XQ}  {u1 : Int} {u2 : Int} {u3 : Int} {u4 : Int} {w0 : Int} (h : xR d 246 es_246 36 [xr (some 101), xi u1, xi u2, xi u3, xi u4] [xi u2, xr (some 101), xi w0] I L (gG D) 0 0 post) : xR d 246 es_246 34 [xr (some 101), xi u1, xi u2, xi u3, xi u4] [xi w0] I L (gG D) 0 0 post := xW_R (fun k => Nat.beq k 2 || Nat.beq k 6 || Nat.beq k 15 || Nat.beq k 21 || Nat.beq k 27 || Nat.beq k 33 || Nat.beq k 36 || Nat.beq k 42 || Nat.beq k 47 || Nat.beq k 49) 2 _ _ _ _ _ _ _ _ _ _ _ _ h
set_option maxRecDepth 8000 in
theorem sg_246_37 {d : Nat} {I : XI} {L : XL} {D : GD} {post : XQ}  {u1 : Int} {u2 : Int} {u3 : Int} {u4 : Int} {w0 : Int} {w1 : Int} (h : post (some (xi (w0 - w1))) I L (gG D)) : xR d 246 es_246 37 [xr (some 101), xi u1, xi u2, xi u3, xi u4] [xi w1, xi w0] I L (gG D) 0 0 post := xW_R (fun k => Nat.beq k 2 || Nat.beq k 6 || Nat.beq k 15 || Nat.beq k 21 || Nat.beq k 27 || Nat.beq k 33 || Nat.beq k 36 || Nat.beq k 42 || Nat.beq k 47 || Nat.beq k 49) 3 _ _ _ _ _ _ _ _ _ _ _ _ h
set_option maxRecDepth 8000 in
theorem w_246 {d : Nat} {I : XI} {L : XL} {D : GD} {post : XQ}   {on : Int} {ot : Int} {n : Int} {what : Int} (hd : 5 ≤ d) (h : ((SO (I 111) ∧ (-2147483648 ≤ on ∧ on ≤ 2147483647)) ∧ (((¬ (0 ≤ on ∧ on < I 111 (4 : Int)) → post (some (xi (-1000 : Int))) I L (gG D)) ∧ (0 ≤ on ∧ on < I 111 (4 : Int) → ((SO (I 111) ∧ (-2147483648 ≤ ot ∧ ot ≤ 2147483647)) ∧ (((¬ (0 ≤ ot ∧ ot < I 111 (4 : Int)) → post (some (xi (-1000 : Int))) I L (gG D)) ∧ (0 ≤ ot ∧ ot < I 111 (4 : Int) → (((-2147483648 ≤ on ∧ on ≤ 2147483647) ∧ (-2147483648 ≤ ot ∧ ot ≤ 2147483647)) ∧ ((on = ot → post (some (xi (-1000 : Int))) I L (gG D)) ∧ (¬ on = ot → (((-2147483648 ≤ n ∧ n ≤ 2147483647)) ∧ (((-2147483648 ≤ n ∧ n ≤ 2147483647) ∧ (-2147483648 ≤ (1 : Int) ∧ (1 : Int) ≤ 2147483647) ∧ (-2147483648 ≤ (4 : Int) ∧ (4 : Int) ≤ 2147483647)) ∧ (((¬ ((1 : Int) ≤ n ∧ n ≤ (4 : Int)) → post (some (xi (-1000 : Int))) I L (gG D)) ∧ ((1 : Int) ≤ n ∧ n ≤ (4 : Int) → (((-2147483648 ≤ what ∧ what ≤ 2147483647)) ∧ (((-2147483648 ≤ what ∧ what ≤ 2147483647) ∧ (-2147483648 ≤ (0 : Int) ∧ (0 : Int) ≤ 2147483647) ∧ (-2147483648 ≤ (1 : Int) ∧ (1 : Int) ≤ 2147483647)) ∧ ((((0 : Int) ≤ what ∧ what ≤ (1 : Int) → ((SO (I 111) ∧ (-2147483648 ≤ (-1 : Int) ∧ (-1 : Int) ≤ 2147483647)) ∧ (((-2147483648 ≤ (pslices (I 111) (-1 : Int)) ∧ (pslices (I 111) (-1 : Int)) ≤ 2147483647)) ∧ ((¬ (pslices (I 111) (-1 : Int)) = 0 → ((SO (I 111) ∧ (0 ≤ on ∧ on < I 111 (4 : Int)) ∧ (0 ≤ ot ∧ ot < I 111 (4 : Int)) ∧ (1 ≤ n ∧ n ≤ 4) ∧ ¬ pslices (I 111) (-1) = 0) ∧ (∀ (e2846 : Int → Int) (e2847 : Int → Int) (e2848 : Int → Int), (e2847 0 = (pgl (pgv on ot (n - 1).toNat 1) 0 on (I 111) ((I 111) 3).toNat 0 (0, 0, 0)).2.1 → (((¬ what = 0 → post (some (xi ((pgl (pgv on ot (n - 1).toNat 1) 0 on (I 111) ((I 111) 3).toNat 0 (0, 0, 0)).2.2))) (xsc (xsc (xsc (xsc (xsc (xsc I 101 (xup (I 101) (35 : Int) ((pgl (pgv on ot (n - 1).toNat 1) 0 on (I 111) ((I 111) 3).toNat 0 (0, 0, 0)).2.2))) 111 (xcp (xcp (I 111) (I 113) 10 0 16) (I 111) 0 10 16)) 113 (xcp (I 111) (I 113) 10 0 16)) 117 e2846) 118 e2847) 119 e2848) L (gG D)) ∧ (what = 0 → post (some (xi (e2847 (0 : Int)))) (xsc (xsc (xsc (xsc (xsc (xsc I 101 (xup (I 101) (35 : Int) ((pgl (pgv on ot (n - 1).toNat 1) 0 on (I 111) ((I 111) 3).toNat 0 (0, 0, 0)).2.2))) 111 (xcp (xcp (I 111) (I 113) 10 0 16) (I 111) 0 10 16)) 113 (xcp (I 111) (I 113) 10 0 16)) 117 e2846) 118 e2847) 119 e2848) L (gG D)))))))) ∧ ((pslices (I 111) (-1 : Int)) = 0 → (((¬ what = 0 → post (some (xi (-1 : Int))) I L (gG D)) ∧ (what = 0 → ((SO (I 111) ∧ (0 ≤ on ∧ on < 5)) ∧ ((SO (I 111) ∧ (0 ≤ ot ∧ ot < 5)) ∧ post (some (xi ((phas (I 111) on) - (phas (I 111) ot)))) I L (gG D))))))))))) ∧ (¬ ((0 : Int) ≤ what ∧ what ≤ (1 : Int)) → post (some (xi (-1000 : Int))) I L (gG D))))))))))))))))))))))) : xR d 246 es_246 0 [xr (some 101), xi on, xi ot, xi n, xi what] [] I L (gG D) 0 0 post := sg_246_0  ((xR_cF rfl rfl rfl (c_194 h.1) (by omega) (sg_246_3  ⟨(xb_rg _), ⟨fun q2863 => (h.2.1 (xb_0 q2863)), fun q2864 => (xR_cF rfl rfl rfl (c_194 (h.2.2 (xb_n0 q2864)).1) (by omega) (sg_246_7  ⟨(xb_rg _), ⟨fun q2861 => ((h.2.2 (xb_n0 q2864)).2.1 (xb_0 q2861)), fun q2862 => ⟨⟨((h.2.2 (xb_n0 q2864)).2.2 (xb_n0 q2862)).1.1, ((h.2.2 (xb_n0 q2864)).2.2 (xb_n0 q2862)).1.2⟩, ⟨fun q2859 => (((h.2.2 (xb_n0 q2864)).2.2 (xb_n0 q2862)).2.1 q2859), fun q2860 => ⟨(((h.2.2 (xb_n0 q2864)).2.2 (xb_n0 q2862)).2.2 q2860).1, (xR_cF rfl rfl rfl (c_147 (((h.2.2 (xb_n0 q2864)).2.2 (xb_n0 q2862)).2.2 q2860).2.1) (by omega) (sg_246_16  ⟨(xb_rg _), ⟨fun q2857 => ((((h.2.2 (xb_n0 q2864)).2.2 (xb_n0 q2862)).2.2 q2860).2.2.1 (xb_0 q2857)), fun q2858 => ⟨((((h.2.2 (xb_n0 q2864)).2.2 (xb_n0 q2862)).2.2 q2860).2.2.2 (xb_n0 q2858)).1, (xR_cF rfl rfl rfl (c_147 ((((h.2.2 (xb_n0 q2864)).2.2 (xb_n0 q2862)).2.2 q2860).2.2.2 (xb_n0 q2858)).2.1) (by omega) (sg_246_22  ⟨(xb_rg _), ⟨fun q2855 => (xR_cF rfl rfl rfl (c_197 (((((h.2.2 (xb_n0 q2864)).2.2 (xb_n0 q2862)).2.2 q2860).2.2.2 (xb_n0 q2858)).2.2.1 (xb_n0 q2855)).1) (by omega) (sg_246_28  ⟨(((((h.2.2 (xb_n0 q2864)).2.2 (xb_n0 q2862)).2.2 q2860).2.2.2 (xb_n0 q2858)).2.2.1 (xb_n0 q2855)).2.1, ⟨fun q2853 => (xR_cF rfl rfl rfl c_220 (by omega) (sg_246_43  (xR_cQ rfl rfl rfl (c_245 ((((((h.2.2 (xb_n0 q2864)).2.2 (xb_n0 q2862)).2.2 q2860).2.2.2 (xb_n0 q2858)).2.2.1 (xb_n0 q2855)).2.2.1 q2853).1) (by omega) (fun _ _ _ _ hx2865 => by obtain ⟨e2846, e2847, e2848, hp2866, rfl, rfl, rfl, rfl⟩ := hx2865; exact (sg_246_48  (xR_cF rfl rfl rfl c_221 (by omega) (sg_246_50  ⟨((((h.2.2 (xb_n0 q2864)).2.2 (xb_n0 q2862)).2.2 q2860).2.2.2 (xb_n0 q2858)).1, ⟨fun q2849 => (xpost ((((((((h.2.2 (xb_n0 q2864)).2.2 (xb_n0 q2862)).2.2 q2860).2.2.2 (xb_n0 q2858)).2.2.1 (xb_n0 q2855)).2.2.1 q2853).2 e2846 e2847 e2848 hp2866).1 q2849) (funext fun i => (xpt rfl (fun h119_ => (xpt rfl (fun h118_ => (xpt rfl (fun h117_ => (xpt rfl (fun h113_ => (xpt rfl (fun h111_ => (xpt rfl (fun h101_ => (by simp only [xsc_ne _ _ h101_, xwr_ne _ _ _ h101_, xsc_ne _ _ h111_, xwr_ne _ _ _ h111_, xsc_ne _ _ h113_, xwr_ne _ _ _ h113_, xsc_ne _ _ h117_, xwr_ne _ _ _ h117_, xsc_ne _ _ h118_, xwr_ne _ _ _ h118_, xsc_ne _ _ h119_, xwr_ne _ _ _ h119_])))))))))))))) rfl), fun q2850 => ⟨(by decide), (xpost ((((((((h.2.2 (xb_n0 q2864)).2.2 (xb_n0 q2862)).2.2 q2860).2.2.2 (xb_n0 q2858)).2.2.1 (xb_n0 q2855)).2.2.1 q2853).2 e2846 e2847 e2848 hp2866).2 q2850) (funext fun i => (xpt rfl (fun h119_ => (xpt rfl (fun h118_ => (xpt rfl (fun h117_ => (xpt rfl (fun h113_ => (xpt rfl (fun h111_ => (xpt rfl (fun h101_ => (by simp only [xsc_ne _ _ h101_, xwr_ne _ _ _ h101_, xsc_ne _ _ h111_, xwr_ne _ _ _ h111_, xsc_ne _ _ h113_, xwr_ne _ _ _ h113_, xsc_ne _ _ h117_, xwr_ne _ _ _ h117_, xsc_ne _ _ h118_, xwr_ne _ _ _ h118_, xsc_ne _ _ h119_, xwr_ne _ _ _ h119_])))))))))))))) rfl)⟩⟩⟩))))))), fun q2854 => ⟨((((h.2.2 (xb_n0 q2864)).2.2 (xb_n0 q2862)).2.2 q2860).2.2.2 (xb_n0 q2858)).1, ⟨fun q2851 => (((((((h.2.2 (xb_n0 q2864)).2.2 (xb_n0 q2862)).2.2 q2860).2.2.2 (xb_n0 q2858)).2.2.1 (xb_n0 q2855)).2.2.2 q2854).1 q2851), fun q2852 => (xR_cF rfl rfl rfl (c_199 (((((((h.2.2 (xb_n0 q2864)).2.2 (xb_n0 q2862)).2.2 q2860).2.2.2 (xb_n0 q2858)).2.2.1 (xb_n0 q2855)).2.2.2 q2854).2 q2852).1) (by omega) (sg_246_34  (xR_cF rfl rfl rfl (c_199 (((((((h.2.2 (xb_n0 q2864)).2.2 (xb_n0 q2862)).2.2 q2860).2.2.2 (xb_n0 q2858)).2.2.1 (xb_n0 q2855)).2.2.2 q2854).2 q2852).2.1) (by omega) (sg_246_37  (((((((h.2.2 (xb_n0 q2864)).2.2 (xb_n0 q2862)).2.2 q2860).2.2.2 (xb_n0 q2858)).2.2.1 (xb_n0 q2855)).2.2.2 q2854).2 q2852).2.2))))⟩⟩⟩⟩)), fun q2856 => (((((h.2.2 (xb_n0 q2864)).2.2 (xb_n0 q2862)).2.2 q2860).2.2.2 (xb_n0 q2858)).2.2.2 (xb_0 q2856))⟩⟩))⟩⟩⟩))⟩⟩⟩⟩⟩))⟩⟩)))
theorem c_246 {I : XI} {L : XL} {D : GD}   {on : Int} {ot : Int} {n : Int} {what : Int} (h : (SO (I 111) ∧ (-2147483648 ≤ on ∧ on ≤ 2147483647) ∧ (-2147483648 ≤ ot ∧ ot ≤ 2147483647) ∧ (-2147483648 ≤ n ∧ n ≤ 2147483647) ∧ (-2147483648 ≤ what ∧ what ≤ 2147483647))) : xM 5 246 [xr (some 101), xi on, xi ot, xi n, xi what] I L (gG D) (0, 0) (fun r2 I2 L2 G2 => ∃ (f9 : Int) (kp : Int → Int) (T2 : Int → Int) (B2 : Int → Int) (X2 : Int → Int), r2 = (some (xi (if ((0 ≤ on ∧ on < I 111 (4 : Int)) ∧ (0 ≤ ot ∧ ot < I 111 (4 : Int)) ∧ ¬ on = ot ∧ (1 ≤ n ∧ n ≤ 4) ∧ (0 ≤ what ∧ what ≤ 1)) then qgame (I 111) on ot n what else -1000))) ∧ I2 = (xsc (xsc (xsc (xsc (xsc (xsc I 101 (xup (I 101) (35 : Int) (if ((0 ≤ on ∧ on < I 111 (4 : Int)) ∧ (0 ≤ ot ∧ ot < I 111 (4 : Int)) ∧ ¬ on = ot ∧ (1 ≤ n ∧ n ≤ 4) ∧ (0 ≤ what ∧ what ≤ 1)) then f9 else I 101 (35 : Int)))) 111 (if ((0 ≤ on ∧ on < I 111 (4 : Int)) ∧ (0 ≤ ot ∧ ot < I 111 (4 : Int)) ∧ ¬ on = ot ∧ (1 ≤ n ∧ n ≤ 4) ∧ (0 ≤ what ∧ what ≤ 1)) then (I 111) else (I 111))) 113 (if ((0 ≤ on ∧ on < I 111 (4 : Int)) ∧ (0 ≤ ot ∧ ot < I 111 (4 : Int)) ∧ ¬ on = ot ∧ (1 ≤ n ∧ n ≤ 4) ∧ (0 ≤ what ∧ what ≤ 1)) then kp else (I 113))) 117 (if ((0 ≤ on ∧ on < I 111 (4 : Int)) ∧ (0 ≤ ot ∧ ot < I 111 (4 : Int)) ∧ ¬ on = ot ∧ (1 ≤ n ∧ n ≤ 4) ∧ (0 ≤ what ∧ what ≤ 1)) then T2 else (I 117))) 118 (if ((0 ≤ on ∧ on < I 111 (4 : Int)) ∧ (0 ≤ ot ∧ ot < I 111 (4 : Int)) ∧ ¬ on = ot ∧ (1 ≤ n ∧ n ≤ 4) ∧ (0 ≤ what ∧ what ≤ 1)) then B2 else (I 118))) 119 (if ((0 ≤ on ∧ on < I 111 (4 : Int)) ∧ (0 ≤ ot ∧ ot < I 111 (4 : Int)) ∧ ¬ on = ot ∧ (1 ≤ n ∧ n ≤ 4) ∧ (0 ≤ what ∧ what ≤ 1)) then X2 else (I 119))) ∧ L2 = L ∧ G2 = (gG D)) := by
  intro d hd
  obtain ⟨hS, h1, h2, h3, h4⟩ := h
  have hn := hS.n
  have hg := hS.g
  have hf := hS.f
  have hb := pslices_rg hS (-1)
  refine w_246 (by omega) ?_
  by_cases hc : ((0 ≤ on ∧ on < I 111 (4 : Int)) ∧ (0 ≤ ot ∧ ot < I 111 (4 : Int)) ∧ ¬ on = ot ∧ (1 ≤ n ∧ n ≤ 4) ∧ (0 ≤ what ∧ what ≤ 1))
  · simp only [if_pos hc]
    have p1 := phas_rg hS hc.1.1 (by omega)
    have p2 := phas_rg hS hc.2.1.1 (by omega)
    have lb := lays_back (a := I 111) (b := I 111) (c := I 113) (fun j hj => rfl)
    repeat' first | (with_reducible intro _) | (with_reducible refine And.intro ?_ ?_)
    all_goals first | omega | assumption | exact ⟨hS, by omega⟩ | exact ⟨hS, hc.1, hc.2.1, hc.2.2.2.1, by assumption⟩ | exact ⟨_, _, _, _, _, (by first | rfl | trivial), (by first | rfl | trivial), (by first | rfl | trivial), (by first | rfl | trivial)⟩ | skip
    all_goals first
      | (simp only [lb]
         refine ⟨_, _, _, _, _, ?_, rfl, (by first | rfl | trivial), (by first | rfl | trivial)⟩
         unfold qgame
         rw [if_neg (by assumption)]
         first | (rw [if_pos (show what = 0 by assumption)]; congr 2; done) | (rw [if_pos (show what = 0 by assumption)]; congr 2; assumption) | (rw [if_neg (show ¬ what = 0 by assumption)]))
      | (refine ⟨I 101 35, I 113, I 117, I 118, I 119, ?_, by (funext i; by_cases h101 : i = 101; (subst h101; first | rfl | exact (xcp_zero _ _ _ _).symm | exact (xup_self _ _).symm | exact (xup_self2 _ _ _).symm | exact (xup_self3 _ _ _ _).symm | exact xup_self _ _); by_cases h111 : i = 111; (subst h111; first | rfl | exact (xcp_zero _ _ _ _).symm | exact (xup_self _ _).symm | exact (xup_self2 _ _ _).symm | exact (xup_self3 _ _ _ _).symm | exact xup_self _ _); by_cases h113 : i = 113; (subst h113; first | rfl | exact (xcp_zero _ _ _ _).symm | exact (xup_self _ _).symm | exact (xup_self2 _ _ _).symm | exact (xup_self3 _ _ _ _).symm | exact xup_self _ _); by_cases h117 : i = 117; (subst h117; first | rfl | exact (xcp_zero _ _ _ _).symm | exact (xup_self _ _).symm | exact (xup_self2 _ _ _).symm | exact (xup_self3 _ _ _ _).symm | exact xup_self _ _); by_cases h118 : i = 118; (subst h118; first | rfl | exact (xcp_zero _ _ _ _).symm | exact (xup_self _ _).symm | exact (xup_self2 _ _ _).symm | exact (xup_self3 _ _ _ _).symm | exact xup_self _ _); by_cases h119 : i = 119; (subst h119; first | rfl | exact (xcp_zero _ _ _ _).symm | exact (xup_self _ _).symm | exact (xup_self2 _ _ _).symm | exact (xup_self3 _ _ _ _).symm | exact xup_self _ _); first | rfl | simp only [xsc_ne _ _ h101, xsc_ne _ _ h111, xsc_ne _ _ h113, xsc_ne _ _ h117, xsc_ne _ _ h118, xsc_ne _ _ h119]), (by first | rfl | trivial), (by first | rfl | trivial)⟩
         unfold qgame
         rw [if_pos (by assumption)]
         first | (rw [if_pos (show what = 0 by assumption)]; done) | (rw [if_neg (show ¬ what = 0 by assumption)]; done))
  · simp only [if_neg hc]
    repeat' first | (with_reducible intro _) | (with_reducible refine And.intro ?_ ?_)
    all_goals first | omega | assumption | exact ⟨hS, by omega⟩ | exact ⟨hS, hc.1, hc.2.1, hc.2.2.2.1, by assumption⟩ | (exact ⟨I 101 35, I 113, I 117, I 118, I 119, (by first | rfl | trivial), (by (funext i; by_cases h101 : i = 101; (subst h101; first | rfl | exact (xcp_zero _ _ _ _).symm | exact (xup_self _ _).symm | exact (xup_self2 _ _ _).symm | exact (xup_self3 _ _ _ _).symm | exact xup_self _ _); by_cases h111 : i = 111; (subst h111; first | rfl | exact (xcp_zero _ _ _ _).symm | exact (xup_self _ _).symm | exact (xup_self2 _ _ _).symm | exact (xup_self3 _ _ _ _).symm | exact xup_self _ _); by_cases h113 : i = 113; (subst h113; first | rfl | exact (xcp_zero _ _ _ _).symm | exact (xup_self _ _).symm | exact (xup_self2 _ _ _).symm | exact (xup_self3 _ _ _ _).symm | exact xup_self _ _); by_cases h117 : i = 117; (subst h117; first | rfl | exact (xcp_zero _ _ _ _).symm | exact (xup_self _ _).symm | exact (xup_self2 _ _ _).symm | exact (xup_self3 _ _ _ _).symm | exact xup_self _ _); by_cases h118 : i = 118; (subst h118; first | rfl | exact (xcp_zero _ _ _ _).symm | exact (xup_self _ _).symm | exact (xup_self2 _ _ _).symm | exact (xup_self3 _ _ _ _).symm | exact xup_self _ _); by_cases h119 : i = 119; (subst h119; first | rfl | exact (xcp_zero _ _ _ _).symm | exact (xup_self _ _).symm | exact (xup_self2 _ _ _).symm | exact (xup_self3 _ _ _ _).symm | exact xup_self _ _); first | rfl | simp only [xsc_ne _ _ h101, xsc_ne _ _ h111, xsc_ne _ _ h113, xsc_ne _ _ h117, xsc_ne _ _ h118, xsc_ne _ _ h119])), (by first | rfl | trivial), (by first | rfl | trivial)⟩) | skip
