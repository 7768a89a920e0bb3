theorem gP_rof {D : GD} {f : Int} (h1 : 0 ≤ f) (h2 : f < (D.1 : Int)) : gP D 19 f = rof f := by
  show (if 0 ≤ f ∧ f < (D.1 : Int) then some (126 + 3 * f.toNat) else none) = rof f
  unfold rof
  rw [if_pos ⟨h1, h2⟩, if_pos h1]
theorem rof_neg {f : Int} (h : f < 0) : rof f = none := if_neg (by omega)
set_option maxRecDepth 8000 in
theorem sg_22_0 {d : Nat} {I : XI} {L : XL} {D : GD} {post : XQ}  {u1 : Int} (h : ((-2147483648 ≤ u1 ∧ u1 ≤ 2147483647) ∧ ((u1 < 0 → post (some (xr none)) I L (gG D)) ∧ (0 ≤ u1 → (((-2147483648 ≤ u1 ∧ u1 ≤ 2147483647) ∧ (-2147483648 ≤ (6 : Int) ∧ (6 : Int) ≤ 2147483647)) ∧ (((6 : Int) ≤ u1 → post (some (xr none)) I L (gG D)) ∧ (u1 < (6 : Int) → ((0 ≤ u1 ∧ u1 < (6 : Int)) ∧ post (some (xr (gP D 19 u1))) I L (gG D))))))))) : xR d 22 es_22 0 [xr (some 96), xi u1] [] I L (gG D) 0 0 post := xW_R (fun k => false) 13 _ _ _ _ _ _ _ _ _ _ _ _ h
set_option maxRecDepth 8000 in
theorem w_22 {d : Nat} {I : XI} {L : XL} {D : GD} {post : XQ}   {f : Int} (hd : 0 ≤ d) (h : (((-2147483648 ≤ f ∧ f ≤ 2147483647)) ∧ ((f < 0 → post (some (xr none)) I L (gG D)) ∧ (0 ≤ f → ((((6 : Int) ≤ f → post (some (xr none)) I L (gG D)) ∧ (f < (6 : Int) → (((0 ≤ f ∧ f < (6 : Int))) ∧ post (some (xr (gP D 19 f))) I L (gG D))))))))) : xR d 22 es_22 0 [xr (some 96), xi f] [] I L (gG D) 0 0 post := sg_22_0  (⟨h.1, ⟨fun q1902 => (h.2.1 q1902), fun q1903 => ⟨⟨h.1, (by decide)⟩, ⟨fun q1900 => ((h.2.2 q1903).1 q1900), fun q1901 => ⟨((h.2.2 q1903).2 q1901).1, ((h.2.2 q1903).2 q1901).2⟩⟩⟩⟩⟩)
theorem c_22 {I : XI} {L : XL} {D : GD}   {f : Int} (h : (-1 ≤ f ∧ f < (D.1 : Int) ∧ D.1 ≤ 6)) : xM 0 22 [xr (some 96), xi f] I L (gG D) (0, 0) (xD (some (xr (rof f))) I L (gG D)) := by
  intro d hd
  obtain ⟨h1, h2, h3⟩ := h
  refine w_22 (by omega) ?_
  repeat' first | (with_reducible intro _) | (with_reducible refine And.intro ?_ ?_)
  all_goals first | omega | skip
  all_goals first
    | (refine xD_eq ?_ rfl rfl; rw [rof_neg (by omega)]; done)
    | (refine xD_eq ?_ rfl rfl; rw [gP_rof (by omega) (by omega)]; done)
set_option maxRecDepth 8000 in
theorem sg_21_0 {d : Nat} {I : XI} {L : XL} {D : GD} {post : XQ}   (h : xR d 21 es_21 4 [xr (some 96)] [xi (I 6 (2 : Int)), xr (some 96)] I L (gG D) 0 0 post) : xR d 21 es_21 0 [xr (some 96)] [] I L (gG D) 0 0 post := xW_R (fun k => Nat.beq k 4) 4 _ _ _ _ _ _ _ _ _ _ _ _ h
set_option maxRecDepth 8000 in
theorem sg_21_5 {d : Nat} {I : XI} {L : XL} {D : GD} {post : XQ}  {w0 : Option Nat} (h : post (some (xr w0)) I L (gG D)) : xR d 21 es_21 5 [xr (some 96)] [xr w0] I L (gG D) 0 0 post := xW_R (fun k => Nat.beq k 4) 1 _ _ _ _ _ _ _ _ _ _ _ _ h
set_option maxRecDepth 8000 in
theorem w_21 {d : Nat} {I : XI} {L : XL} {D : GD} {post : XQ}    (hd : 1 ≤ d) (h : ((-1 ≤ (I 6 (2 : Int)) ∧ (I 6 (2 : Int)) < (D.1 : Int) ∧ D.1 ≤ 6) ∧ post (some (xr (rof (I 6 (2 : Int))))) I L (gG D))) : xR d 21 es_21 0 [xr (some 96)] [] I L (gG D) 0 0 post := sg_21_0  ((xR_cF rfl rfl rfl (c_22 h.1) (by omega) (sg_21_5  h.2)))
theorem c_21 {I : XI} {L : XL} {D : GD}    (h : (-1 ≤ (I 6 (2 : Int)) ∧ (I 6 (2 : Int)) < (D.1 : Int) ∧ D.1 ≤ 6)) : xM 1 21 [xr (some 96)] I L (gG D) (0, 0) (xD (some (xr (rof (I 6 (2 : Int))))) I L (gG D)) := by
  intro d hd
  refine w_21 (by omega) ?_
  exact ⟨h, xD_in⟩
theorem cvw_pass2 {F Kd Z Tr Lk Wt T O U P : Int → Int} {f kk t : Int} {R : (Int → Int64) → Int64} (h : CO F Kd Z Tr Lk Wt (xup T 2 t) O U P) : cvw F Kd Z Tr Lk (xup T 2 (t + 1)) (if 0 ≤ ppick f R kk (cvw F Kd Z Tr Lk (xup T 2 t) O U P) then xup O (ppick f R kk (cvw F Kd Z Tr Lk (xup T 2 t) O U P)) (pwhose (cvw F Kd Z Tr Lk (xup T 2 t) O U P)) else O) U P = ppass f R kk (cvw F Kd Z Tr Lk (xup T 2 t) O U P) := by
  have := cvw_pass (f := f) (kk := kk) (R := R) h
  rw [xup_up, show xup T 2 t 2 = t from xup_same _ _ _] at this
  exact this
theorem CO_pass2 {F Kd Z Tr Lk Wt T O U P : Int → Int} {f kk t : Int} {R : (Int → Int64) → Int64} (h : CO F Kd Z Tr Lk Wt (xup T 2 t) O U P) (ht : t < 2000) : CO F Kd Z Tr Lk Wt (xup T 2 (t + 1)) (if 0 ≤ ppick f R kk (cvw F Kd Z Tr Lk (xup T 2 t) O U P) then xup O (ppick f R kk (cvw F Kd Z Tr Lk (xup T 2 t) O U P)) (pwhose (cvw F Kd Z Tr Lk (xup T 2 t) O U P)) else O) U P := by
  have h3 : xup T 2 t 2 = t := xup_same _ _ _
  have := CO_pass (f := f) (kk := kk) (R := R) h (by omega)
  rw [xup_up, h3] at this
  exact this
theorem CO_copy {F Kd Z Tr Lk Wt T T2 O O2 U U2 P : Int → Int} (h : CO F Kd Z Tr Lk Wt T O U P) : CO F Kd Z Tr Lk Wt (xup (xup T2 1 (T 1)) 2 (T 2)) (xcp O O2 0 0 10) (xcp U U2 0 0 5) P := by
  refine ⟨?_, h.2⟩
  rw [cvw_copy (by have := h.g; omega)]
  exact h.1
set_option maxRecDepth 8000 in
theorem sg_23_0 {d : Nat} {I : XI} {L : XL} {D : GD} {post : XQ}  {u1 : Int} {u2 : Option Nat} {u3 : Int} (h : xR d 23 es_23 2 [xr (some 96), xi u1, xr u2, xi u3, xi (0 : Int)] [] I L (gG D) 0 0 post) : xR d 23 es_23 0 [xr (some 96), xi u1, xr u2, xi u3, xt 0] [] I L (gG D) 0 0 post := xW_R (fun k => Nat.beq k 2 || Nat.beq k 11) 2 _ _ _ _ _ _ _ _ _ _ _ _ h
set_option maxRecDepth 8000 in
theorem w_23 {d : Nat} {I : XI} {L : XL} {D : GD} {post : XQ} {f : Int}  {n : Int} {kp : Int} (hd : 0 ≤ d) (h : xR d 23 es_23 2 [xr (some 96), xi n, xr (rof f), xi kp, xi (0 : Int)] [] I L (gG D) 0 0 post) : xR d 23 es_23 0 [xr (some 96), xi n, xr (rof f), xi kp, xt 0] [] I L (gG D) 0 0 post := sg_23_0  (h)
set_option maxRecDepth 8000 in
theorem sg_23_2 {d : Nat} {I : XI} {L : XL} {D : GD} {post : XQ}  {u1 : Int} {u2 : Option Nat} {u3 : Int} {u4 : Int} (h : (((-2147483648 ≤ u4 ∧ u4 ≤ 2147483647) ∧ (-2147483648 ≤ u1 ∧ u1 ≤ 2147483647)) ∧ ((u1 ≤ u4 → post none I L (gG D)) ∧ (u4 < u1 → xR d 23 es_23 11 [xr (some 96), xi u1, xr u2, xi u3, xi u4] [xi u3, xr u2, xr (some 98), xr (some 20)] I L (gG D) 0 0 post)))) : xR d 23 es_23 2 [xr (some 96), xi u1, xr u2, xi u3, xi u4] [] I L (gG D) 0 0 post := xW_R (fun k => Nat.beq k 2 || Nat.beq k 11) 9 _ _ _ _ _ _ _ _ _ _ _ _ h
set_option maxRecDepth 8000 in
theorem sg_23_12 {d : Nat} {I : XI} {L : XL} {D : GD} {post : XQ}  {u1 : Int} {u2 : Option Nat} {u3 : Int} {u4 : Int} {w0 : Int} (h : xR d 23 es_23 2 [xr (some 96), xi u1, xr u2, xi u3, xi (u4 + (1 : Int))] [] I L (gG D) 0 0 post) : xR d 23 es_23 12 [xr (some 96), xi u1, xr u2, xi u3, xi u4] [xi w0] I L (gG D) 0 0 post := xW_R (fun k => Nat.beq k 2 || Nat.beq k 11) 3 _ _ _ _ _ _ _ _ _ _ _ _ h
set_option maxRecDepth 8000 in
theorem b_23 {d : Nat} {I : XI} {L : XL} {D : GD} {post : XQ} {f tk : Int} {O2 : Int → Int} {W K : Int → Int64}  {n : Int} {kp : Int} {i0 : Int} (hd : 5 ≤ d) (h : (((-2147483648 ≤ i0 ∧ i0 ≤ 2147483647) ∧ (-2147483648 ≤ n ∧ n ≤ 2147483647)) ∧ ((n ≤ i0 → post none (xsc (xsc I 98 (xup (I 98) (2 : Int) tk)) 99 O2) (xsc (xsc L 21 W) 22 K) (gG D)) ∧ (i0 < n → ((CO (I 10) (I 11) (I 12) (I 13) (I 14) (I 15) (xup (I 98) (2 : Int) tk) O2 (I 100) (I 111) ∧ tk < 2000 ∧ CRO (I 127) (I 128) (I 130) (I 131) (I 133) (I 134) (I 136) (I 137) (I 139) (I 140) (I 142) (I 143) D f) ∧ (∀ (e1904 : Int → Int64) (e1905 : Int → Int64), xR d 23 es_23 2 [xr (some 96), xi n, xr (rof f), xi kp, xi (i0 + (1 : Int))] [] (xsc (xsc I 98 (xup (I 98) (2 : Int) (tk + 1))) 99 (if 0 ≤ (ppick f (cR (I 127) (I 128) (I 130) (I 131) (I 133) (I 134) (I 136) (I 137) (I 139) (I 140) (I 142) (I 143) D f) kp (cvw (I 10) (I 11) (I 12) (I 13) (I 14) (xup (I 98) (2 : Int) tk) O2 (I 100) (I 111))) then xup O2 (ppick f (cR (I 127) (I 128) (I 130) (I 131) (I 133) (I 134) (I 136) (I 137) (I 139) (I 140) (I 142) (I 143) D f) kp (cvw (I 10) (I 11) (I 12) (I 13) (I 14) (xup (I 98) (2 : Int) tk) O2 (I 100) (I 111))) (pwhose (cvw (I 10) (I 11) (I 12) (I 13) (I 14) (xup (I 98) (2 : Int) tk) O2 (I 100) (I 111))) else O2)) (xsc (xsc L 21 e1904) 22 e1905) (gG D) 0 0 post)))))) : xR d 23 es_23 2 [xr (some 96), xi n, xr (rof f), xi kp, xi i0] [] (xsc (xsc I 98 (xup (I 98) (2 : Int) tk)) 99 O2) (xsc (xsc L 21 W) 22 K) (gG D) 0 0 post := sg_23_2  (⟨⟨h.1.1, h.1.2⟩, ⟨fun q1906 => (h.2.1 q1906), fun q1907 => (xR_cQ rfl rfl rfl (c_106_98 (h.2.2 q1907).1) (by omega) (fun _ _ _ _ hx1908 => by obtain ⟨e1904, e1905, rfl, rfl, rfl, rfl⟩ := hx1908; exact (sg_23_12  (xR_memc ((h.2.2 q1907).2 e1904 e1905) (funext fun i => (xpt rfl (fun h99_ => (xpt (show (xup (xup (I 98) (2 : Int) tk) (2 : Int) (tk + 1)) = (xup (I 98) (2 : Int) (tk + 1)) from by funext j; simp only [xup]; (repeat' split) <;> first | rfl | omega) (fun h98_ => (by simp only [xsc_ne _ _ h98_, xwr_ne _ _ _ h98_, xsc_ne _ _ h99_, xwr_ne _ _ _ h99_])))))) (funext fun i => (xpt rfl (fun h22_ => (xpt rfl (fun h21_ => (by simp only [xsc_ne _ _ h21_, xwr_ne _ _ _ h21_, xsc_ne _ _ h22_, xwr_ne _ _ _ h22_]))))))))))⟩⟩)
theorem c_23 {I : XI} {L : XL} {D : GD} {n f kp : Int} (h : (CO (I 10) (I 11) (I 12) (I 13) (I 14) (I 15) (I 98) (I 99) (I 100) (I 111) ∧ (0 ≤ n ∧ I 98 (2 : Int) + n ≤ 2000) ∧ CRO (I 127) (I 128) (I 130) (I 131) (I 133) (I 134) (I 136) (I 137) (I 139) (I 140) (I 142) (I 143) D f)) : xM 5 23 [xr (some 96), xi n, xr (rof f), xi kp] I L (gG D) (0, 0) (fun r2 I2 L2 G2 => ∃ (O2 : Int → Int) (W : Int → Int64) (K : Int → Int64), ((cvw (I 10) (I 11) (I 12) (I 13) (I 14) (xup (I 98) (2 : Int) (I 98 (2 : Int) + n)) O2 (I 100) (I 111)) = ppassn f (cR (I 127) (I 128) (I 130) (I 131) (I 133) (I 134) (I 136) (I 137) (I 139) (I 140) (I 142) (I 143) D f) kp (n).toNat (cvw (I 10) (I 11) (I 12) (I 13) (I 14) (I 98) (I 99) (I 100) (I 111)) ∧ CO (I 10) (I 11) (I 12) (I 13) (I 14) (I 15) (xup (I 98) (2 : Int) (I 98 (2 : Int) + n)) O2 (I 100) (I 111)) ∧ r2 = none ∧ I2 = (xsc (xsc I 98 (xup (I 98) (2 : Int) (I 98 (2 : Int) + n))) 99 O2) ∧ L2 = (xsc (xsc L 21 W) 22 K) ∧ G2 = (gG D)) := by
  intro d hd
  obtain ⟨hC, hn, hR⟩ := h
  have h2 := hC.turn
  refine w_23 (by omega) ?_
  have key : ∀ k : Nat, k ≤ n.toNat → ∀ (O2 : Int → Int) (W : Int → Int64) (K : Int → Int64), ((cvw (I 10) (I 11) (I 12) (I 13) (I 14) (xup (I 98) (2 : Int) (I 98 2 + (k : Int))) O2 (I 100) (I 111)) = ppassn f (cR (I 127) (I 128) (I 130) (I 131) (I 133) (I 134) (I 136) (I 137) (I 139) (I 140) (I 142) (I 143) D f) kp k (cvw (I 10) (I 11) (I 12) (I 13) (I 14) (I 98) (I 99) (I 100) (I 111)) ∧ CO (I 10) (I 11) (I 12) (I 13) (I 14) (I 15) (xup (I 98) (2 : Int) (I 98 2 + (k : Int))) O2 (I 100) (I 111)) → xR d 23 es_23 2 [xr (some 96), xi n, xr (rof f), xi kp, xi (k : Int)] [] (xsc (xsc I 98 (xup (I 98) (2 : Int) (I 98 2 + (k : Int)))) 99 O2) (xsc (xsc L 21 W) 22 K) (gG D) 0 0 (fun r2 I2 L2 G2 => ∃ (O2 : Int → Int) (W : Int → Int64) (K : Int → Int64), ((cvw (I 10) (I 11) (I 12) (I 13) (I 14) (xup (I 98) (2 : Int) (I 98 (2 : Int) + n)) O2 (I 100) (I 111)) = ppassn f (cR (I 127) (I 128) (I 130) (I 131) (I 133) (I 134) (I 136) (I 137) (I 139) (I 140) (I 142) (I 143) D f) kp (n).toNat (cvw (I 10) (I 11) (I 12) (I 13) (I 14) (I 98) (I 99) (I 100) (I 111)) ∧ CO (I 10) (I 11) (I 12) (I 13) (I 14) (I 15) (xup (I 98) (2 : Int) (I 98 (2 : Int) + n)) O2 (I 100) (I 111)) ∧ r2 = none ∧ I2 = (xsc (xsc I 98 (xup (I 98) (2 : Int) (I 98 (2 : Int) + n))) 99 O2) ∧ L2 = (xsc (xsc L 21 W) 22 K) ∧ G2 = (gG D)) := by
    refine xfor ?_ ?_
    · intro O2 W K hy
      refine b_23 (by omega) ?_
      repeat' first | (with_reducible intro _) | (with_reducible refine And.intro ?_ ?_)
      all_goals first | omega | assumption | skip
      rw [show ((n.toNat : Nat) : Int) = n by omega] at *
      exact ⟨_, _, _, ⟨hy.1, hy.2⟩, rfl, rfl, rfl, rfl⟩
    · intro k hk ih O2 W K hy
      have hy1 := hy.1
      have hy2 := hy.2
      have hG : (CO (I 10) (I 11) (I 12) (I 13) (I 14) (I 15) (xup (I 98) (2 : Int) (I 98 2 + (k : Int))) O2 (I 100) (I 111) ∧ xup (I 98) 2 (I 98 2 + (k : Int)) 2 < 2000 ∧ CRO (I 127) (I 128) (I 130) (I 131) (I 133) (I 134) (I 136) (I 137) (I 139) (I 140) (I 142) (I 143) D f) := ⟨hy.2, by show I 98 2 + (k : Int) < 2000; omega, hR⟩
      have hp := cvw_pass2 (f := f) (kk := kp) (R := (cR (I 127) (I 128) (I 130) (I 131) (I 133) (I 134) (I 136) (I 137) (I 139) (I 140) (I 142) (I 143) D f)) hy.2
      have hq := CO_pass2 (f := f) (kk := kp) (R := (cR (I 127) (I 128) (I 130) (I 131) (I 133) (I 134) (I 136) (I 137) (I 139) (I 140) (I 142) (I 143) D f)) hy.2 (by omega)
      refine b_23 (by omega) ?_
      repeat' first | (with_reducible intro _) | (with_reducible refine And.intro ?_ ?_)
      all_goals first | omega | assumption | skip
      rw [show ((k + 1 : Nat) : Int) = (k : Int) + 1 by omega, show I 98 2 + ((k : Int) + 1) = I 98 2 + (k : Int) + 1 by omega] at ih
      refine ih _ _ _ ⟨?_, hq⟩
      rw [hp, hy.1]
      rfl
  exact xR_memc (key 0 (Nat.zero_le _) (I 99) (L 21) (L 22) ⟨by rw [show I 98 2 + ((0 : Nat) : Int) = I 98 2 by omega, xup_self]; rfl, by rw [show I 98 2 + ((0 : Nat) : Int) = I 98 2 by omega, xup_self]; exact hC⟩) (by (funext i; by_cases h98 : i = 98; (subst h98; first | rfl | exact (xcp_zero _ _ _ _).symm | exact (xup_self _ _).symm | exact (xup_self2 _ _ _).symm | exact (xup_self3 _ _ _ _).symm | exact xup_self _ _ | (rw [show I 98 2 + ((0 : Nat) : Int) = I 98 2 by omega]; exact (xup_self _ _).symm) | (show I 98 = xup (I 98) 2 (I 98 2 + 0); rw [Int.add_zero, xup_self])); by_cases h99 : i = 99; (subst h99; first | rfl | exact (xcp_zero _ _ _ _).symm | exact (xup_self _ _).symm | exact (xup_self2 _ _ _).symm | exact (xup_self3 _ _ _ _).symm | exact xup_self _ _ | (rw [show I 98 2 + ((0 : Nat) : Int) = I 98 2 by omega]; exact (xup_self _ _).symm) | (show I 98 = xup (I 98) 2 (I 98 2 + 0); rw [Int.add_zero, xup_self])); first | rfl | simp only [xsc_ne _ _ h98, xsc_ne _ _ h99])) (by (funext i; by_cases h21 : i = 21; (subst h21; first | rfl | exact (xcp_zero _ _ _ _).symm | exact (xup_self _ _).symm | exact (xup_self2 _ _ _).symm | exact (xup_self3 _ _ _ _).symm | exact xup_self _ _); by_cases h22 : i = 22; (subst h22; first | rfl | exact (xcp_zero _ _ _ _).symm | exact (xup_self _ _).symm | exact (xup_self2 _ _ _).symm | exact (xup_self3 _ _ _ _).symm | exact xup_self _ _); first | rfl | simp only [xsc_ne _ _ h21, xsc_ne _ _ h22]))
set_option maxRecDepth 8000 in
theorem sg_24_0 {d : Nat} {I : XI} {L : XL} {D : GD} {post : XQ}  {u1 : Int} (h : xR d 24 es_24 5 [xr (some 96), xi u1] [xr (some 16), xr (some 98)] I L (gG D) 0 0 post) : xR d 24 es_24 0 [xr (some 96), xi u1] [] I L (gG D) 0 0 post := xW_R (fun k => Nat.beq k 5 || Nat.beq k 9 || Nat.beq k 11) 5 _ _ _ _ _ _ _ _ _ _ _ _ h
set_option maxRecDepth 8000 in
theorem sg_24_6 {d : Nat} {I : XI} {L : XL} {D : GD} {post : XQ}  {u1 : Int} (h : xR d 24 es_24 9 [xr (some 96), xi u1] [xr (some 96), xi u1, xr (some 96)] I L (gG D) 0 0 post) : xR d 24 es_24 6 [xr (some 96), xi u1] [] I L (gG D) 0 0 post := xW_R (fun k => Nat.beq k 5 || Nat.beq k 9 || Nat.beq k 11) 3 _ _ _ _ _ _ _ _ _ _ _ _ h
set_option maxRecDepth 8000 in
theorem sg_24_10 {d : Nat} {I : XI} {L : XL} {D : GD} {post : XQ}  {u1 : Int} {w1 : Int} {w2 : Option Nat} (h : xR d 24 es_24 11 [xr (some 96), xi u1] [xi (0 : Int), xr w2, xi w1, xr (some 96)] I L (gG D) 0 0 post) : xR d 24 es_24 10 [xr (some 96), xi u1] [xr w2, xi w1, xr (some 96)] I L (gG D) 0 0 post := xW_R (fun k => Nat.beq k 5 || Nat.beq k 9 || Nat.beq k 11) 1 _ _ _ _ _ _ _ _ _ _ _ _ h
set_option maxRecDepth 8000 in
theorem sg_24_12 {d : Nat} {I : XI} {L : XL} {D : GD} {post : XQ}  {u1 : Int} (h : post (some (xr (some 98))) I L (gG D)) : xR d 24 es_24 12 [xr (some 96), xi u1] [] I L (gG D) 0 0 post := xW_R (fun k => Nat.beq k 5 || Nat.beq k 9 || Nat.beq k 11) 3 _ _ _ _ _ _ _ _ _ _ _ _ h
set_option maxRecDepth 8000 in
theorem w_24 {d : Nat} {I : XI} {L : XL} {D : GD} {post : XQ}   {n : Int} (hd : 6 ≤ d) (h : ((-1 ≤ (I 6 (2 : Int)) ∧ (I 6 (2 : Int)) < (D.1 : Int) ∧ D.1 ≤ 6) ∧ ((CO (I 10) (I 11) (I 12) (I 13) (I 14) (I 15) (xup (xup (I 98) (1 : Int) (I 16 (1 : Int))) (2 : Int) (I 16 (2 : Int))) (xcp (I 17) (I 99) 0 0 10) (xcp (I 18) (I 100) 0 0 5) (I 111) ∧ (0 ≤ n ∧ I 16 (2 : Int) + n ≤ 2000) ∧ CRO (I 127) (I 128) (I 130) (I 131) (I 133) (I 134) (I 136) (I 137) (I 139) (I 140) (I 142) (I 143) D (I 6 (2 : Int))) ∧ (∀ (e1910 : Int → Int) (e1911 : Int → Int64) (e1912 : Int → Int64), (((cvw (I 10) (I 11) (I 12) (I 13) (I 14) (xup (xup (xup (I 98) (1 : Int) (I 16 (1 : Int))) (2 : Int) (I 16 (2 : Int))) (2 : Int) (I 16 (2 : Int) + n)) e1910 (xcp (I 18) (I 100) 0 0 5) (I 111)) = ppassn (I 6 (2 : Int)) (cR (I 127) (I 128) (I 130) (I 131) (I 133) (I 134) (I 136) (I 137) (I 139) (I 140) (I 142) (I 143) D (I 6 (2 : Int))) (0 : Int) (n).toNat (cvw (I 10) (I 11) (I 12) (I 13) (I 14) (xup (xup (I 98) (1 : Int) (I 16 (1 : Int))) (2 : Int) (I 16 (2 : Int))) (xcp (I 17) (I 99) 0 0 10) (xcp (I 18) (I 100) 0 0 5) (I 111)) ∧ CO (I 10) (I 11) (I 12) (I 13) (I 14) (I 15) (xup (xup (xup (I 98) (1 : Int) (I 16 (1 : Int))) (2 : Int) (I 16 (2 : Int))) (2 : Int) (I 16 (2 : Int) + n)) e1910 (xcp (I 18) (I 100) 0 0 5) (I 111)) → post (some (xr (some 98))) (xsc (xsc (xsc I 98 (xup (xup (I 98) (1 : Int) (I 16 (1 : Int))) (2 : Int) (I 16 (2 : Int) + n))) 99 e1910) 100 (xcp (I 18) (I 100) 0 0 5)) (xsc (xsc L 21 e1911) 22 e1912) (gG D)))))) : xR d 24 es_24 0 [xr (some 96), xi n] [] I L (gG D) 0 0 post := sg_24_0  ((xR_cF rfl rfl rfl c_81_98_16 (by omega) (sg_24_6  (xR_cF rfl rfl rfl (c_21 h.1) (by omega) (sg_24_10  (xR_cQ rfl rfl rfl (c_23 h.2.1) (by omega) (fun _ _ _ _ hx1913 => by obtain ⟨e1910, e1911, e1912, hp1914, rfl, rfl, rfl, rfl⟩ := hx1913; exact (sg_24_12  (xpost (h.2.2 e1910 e1911 e1912 hp1914) (funext fun i => (xpt rfl (fun h100_ => (xpt rfl (fun h99_ => (xpt (show (xup (xup (xup (I 98) (1 : Int) (I 16 (1 : Int))) (2 : Int) (I 16 (2 : Int))) (2 : Int) (I 16 (2 : Int) + n)) = (xup (xup (I 98) (1 : Int) (I 16 (1 : Int))) (2 : Int) (I 16 (2 : Int) + n)) from by funext j; simp only [xup]; (repeat' split) <;> first | rfl | omega) (fun h98_ => (by simp only [xsc_ne _ _ h98_, xwr_ne _ _ _ h98_, xsc_ne _ _ h99_, xwr_ne _ _ _ h99_, xsc_ne _ _ h100_, xwr_ne _ _ _ h100_])))))))) rfl)))))))))
theorem c_24 {I : XI} {L : XL} {D : GD}   {n : Int} (h : (CO (I 10) (I 11) (I 12) (I 13) (I 14) (I 15) (I 16) (I 17) (I 18) (I 111) ∧ (0 ≤ n ∧ I 16 (2 : Int) + n ≤ 2000) ∧ CRO (I 127) (I 128) (I 130) (I 131) (I 133) (I 134) (I 136) (I 137) (I 139) (I 140) (I 142) (I 143) D (I 6 (2 : Int)))) : xM 6 24 [xr (some 96), xi n] I L (gG D) (0, 0) (fun r2 I2 L2 G2 => ∃ (O2 : Int → Int) (W : Int → Int64) (K : Int → Int64), ((cvw (I 10) (I 11) (I 12) (I 13) (I 14) (xup (xup (I 98) (1 : Int) (I 16 (1 : Int))) (2 : Int) (I 16 (2 : Int) + n)) O2 (xcp (I 18) (I 100) 0 0 5) (I 111)) = ppassn (I 6 (2 : Int)) (cR (I 127) (I 128) (I 130) (I 131) (I 133) (I 134) (I 136) (I 137) (I 139) (I 140) (I 142) (I 143) D (I 6 (2 : Int))) 0 (n).toNat (cvw (I 10) (I 11) (I 12) (I 13) (I 14) (I 16) (I 17) (I 18) (I 111)) ∧ CO (I 10) (I 11) (I 12) (I 13) (I 14) (I 15) (xup (xup (I 98) (1 : Int) (I 16 (1 : Int))) (2 : Int) (I 16 (2 : Int) + n)) O2 (xcp (I 18) (I 100) 0 0 5) (I 111)) ∧ r2 = (some (xr (some 98))) ∧ I2 = (xsc (xsc (xsc I 98 (xup (xup (I 98) (1 : Int) (I 16 (1 : Int))) (2 : Int) (I 16 (2 : Int) + n))) 99 O2) 100 (xcp (I 18) (I 100) 0 0 5)) ∧ L2 = (xsc (xsc L 21 W) 22 K) ∧ G2 = (gG D)) := by
  intro d hd
  obtain ⟨hC, hn, hR⟩ := h
  have hcp := CO_copy (T2 := I 98) (O2 := I 99) (U2 := I 100) hC
  have e0 : (cvw (I 10) (I 11) (I 12) (I 13) (I 14) (xup (xup (I 98) (1 : Int) (I 16 (1 : Int))) (2 : Int) (I 16 (2 : Int))) (xcp (I 17) (I 99) 0 0 10) (xcp (I 18) (I 100) 0 0 5) (I 111)) = (cvw (I 10) (I 11) (I 12) (I 13) (I 14) (I 16) (I 17) (I 18) (I 111)) := cvw_copy (by have := hC.g; omega)
  refine w_24 (by omega) ?_
  refine ⟨⟨hR.1, hR.2.1, hR.2.2.1⟩, ⟨hcp, ⟨hn.1, hn.2⟩, hR⟩, ?_⟩
  intro O2 W K hp
  refine ⟨O2, W, K, ⟨?_, hp.2⟩, rfl, rfl, rfl, rfl⟩
  rw [← e0]
  exact hp.1
