/-! the reference reads the text -/
def nf (b : Int → Int) (n q lo hi : Int) : Int := if ¬ dgt b n q = true then 1 + 8 * q + 0 else if lo ≤ tnv b n q ∧ tnv b n q ≤ hi then 0 else 1 + 8 * q + 1
def nxn (b : Int → Int) (n q : Int) : Int := if dgt b n q = true then de_ b n q else q
def nmn (b : Int → Int) (n q old : Int) : Int := if dgt b n q = true then dvk b q (de_ b n q - q).toNat else old
theorem xup_9 {f : Int → Int} {x y : Int} (h : f 9 = 0) : xup (xup f 8 x) 10 y = xup (xup (xup f 8 x) 9 0) 10 y := by
  funext j
  unfold xup
  by_cases h9 : j = 9
  · subst h9; exact h
  · rw [if_neg h9]
theorem nxn_in {b : Int → Int} {n q : Int} (h : q ≤ n) : q ≤ nxn b n q ∧ nxn b n q ≤ n := by
  unfold nxn
  have := de_all (b := b) (n := n) (p := q)
  split
  · exact ⟨this.1.1, this.1.2 h⟩
  · exact ⟨Int.le_refl _, h⟩
theorem nf_dg {b : Int → Int} {n q lo hi : Int} (h : nf b n q lo hi = 0) (q0 : 0 ≤ q) : dgt b n q = true ∧ (lo ≤ tnv b n q ∧ tnv b n q ≤ hi) := by
  unfold nf at h
  by_cases h1 : dgt b n q = true
  · rw [if_neg (fun r => r h1)] at h
    by_cases h2 : lo ≤ tnv b n q ∧ tnv b n q ≤ hi
    · exact ⟨h1, h2⟩
    · rw [if_neg h2] at h; omega
  · rw [if_pos h1] at h; omega
theorem xand_255 (x : Int) : 0 ≤ xand x 255 ∧ xand x 255 ≤ 255 := by
  unfold xand
  have e : (Int32.ofInt x &&& Int32.ofInt 255).toInt = (((Int32.ofInt x).toBitVec.toNat &&& 255 : Nat) : Int) := by
    show BitVec.toInt ((Int32.ofInt x).toBitVec &&& 255#32) = _
    rw [BitVec.toInt_eq_toNat_of_lt]
    · rw [BitVec.toNat_and]; rfl
    · rw [BitVec.toNat_and]
      have := Nat.and_le_right (n := (Int32.ofInt x).toBitVec.toNat) (m := (255#32).toNat)
      have e2 : (255#32).toNat = 255 := rfl
      omega
  rw [e]
  have := Nat.and_le_right (n := (Int32.ofInt x).toBitVec.toNat) (m := 255)
  omega
theorem tc_rg {b : Int → Int} {n : Int} (h : TPO b n) (p : Int) : -1 ≤ tc b n p ∧ tc b n p ≤ 255 := by
  unfold tc
  split
  · rename_i q
    have h0 : 0 ≤ xand (b p) 255 ∧ xand (b p) 255 ≤ 255 := xand_255 (b p)
    omega
  · omega
set_option maxRecDepth 8000 in
theorem sg_153_0 {d : Nat} {I : XI} {L : XL} {D : GD} {post : XQ}  {u1 : Int} {u2 : Int} (h : ((-2147483648 ≤ (I 101 (9 : Int)) ∧ (I 101 (9 : Int)) ≤ 2147483647) ∧ ((¬ (I 101 (9 : Int)) = 0 → (((0 : Int) = 0 ∨ (0 : Int) = 1) ∧ post (some (xi (0 : Int))) I L (gG D))) ∧ ((I 101 (9 : Int)) = 0 → (((0 : Int) = 0 ∨ (0 : Int) = 1) ∧ post (some (xi (0 : Int))) (xwr I 101 (9 : Int) (((1 : Int) + ((8 : Int) * u2)) + u1)) L (gG D)))))) : xR d 153 es_153 0 [xr (some 101), xi u1, xi u2] [] I L (gG D) 0 0 post := xW_R (fun k => false) 14 _ _ _ _ _ _ _ _ _ _ _ _ h
set_option maxRecDepth 8000 in
theorem w_153 {d : Nat} {I : XI} {L : XL} {D : GD} {post : XQ}   {kd : Int} {at_ : Int} (hd : 0 ≤ d) (h : (((-2147483648 ≤ (I 101 (9 : Int)) ∧ (I 101 (9 : Int)) ≤ 2147483647)) ∧ ((¬ (I 101 (9 : Int)) = 0 → post (some (xi (0 : Int))) I L (gG D)) ∧ ((I 101 (9 : Int)) = 0 → post (some (xi (0 : Int))) (xsc I 101 (xup (I 101) (9 : Int) (((1 : Int) + ((8 : Int) * at_)) + kd))) L (gG D))))) : xR d 153 es_153 0 [xr (some 101), xi kd, xi at_] [] I L (gG D) 0 0 post := sg_153_0  (⟨h.1, ⟨fun q3321 => ⟨(by decide), (h.2.1 q3321)⟩, fun q3322 => ⟨(by decide), (h.2.2 q3322)⟩⟩⟩)
theorem c_153 {I : XI} {L : XL} {D : GD}   {kd : Int} {at_ : Int} (h : I 101 (9 : Int) = 0) : xM 0 153 [xr (some 101), xi kd, xi at_] I L (gG D) (0, 0) (xD (some (xi (xb (False)))) (xsc I 101 (xup (I 101) (9 : Int) (1 + 8 * at_ + kd))) L (gG D)) := by
  intro d hd
  refine w_153 (by omega) ?_
  repeat' first | (with_reducible intro _) | (with_reducible refine And.intro ?_ ?_)
  all_goals first | omega | (rw [xb_f (fun r => r)]; exact xD_in) | exact xD_in
set_option maxRecDepth 8000 in
theorem sg_154_0 {d : Nat} {I : XI} {L : XL} {D : GD} {post : XQ}   (h : (((-2147483648 ≤ (I 101 (8 : Int)) ∧ (I 101 (8 : Int)) ≤ 2147483647) ∧ (-2147483648 ≤ (I 101 (1 : Int)) ∧ (I 101 (1 : Int)) ≤ 2147483647)) ∧ (((I 101 (1 : Int)) ≤ (I 101 (8 : Int)) → (((-2147483648 ≤ (I 101 (8 : Int)) ∧ (I 101 (8 : Int)) ≤ 2147483647) ∧ (-2147483648 ≤ (I 101 (1 : Int)) ∧ (I 101 (1 : Int)) ≤ 2147483647)) ∧ (((I 101 (1 : Int)) ≤ (I 101 (8 : Int)) → post (some (xi (-1 : Int))) I L (gG D)) ∧ ((I 101 (8 : Int)) < (I 101 (1 : Int)) → ((0 ≤ (I 101 (8 : Int)) ∧ (I 101 (8 : Int)) < (400 : Int)) ∧ post (some (xi (xand (I 102 (I 101 (8 : Int))) (255 : Int)))) I L (gG D)))))) ∧ ((I 101 (8 : Int)) < (I 101 (1 : Int)) → ((0 ≤ (I 101 (8 : Int)) ∧ (I 101 (8 : Int)) < (400 : Int)) ∧ (((-2147483648 ≤ (I 102 (I 101 (8 : Int))) ∧ (I 102 (I 101 (8 : Int))) ≤ 2147483647) ∧ (-2147483648 ≤ (32 : Int) ∧ (32 : Int) ≤ 2147483647)) ∧ ((¬ (I 102 (I 101 (8 : Int))) = (32 : Int) → (((-2147483648 ≤ (I 101 (8 : Int)) ∧ (I 101 (8 : Int)) ≤ 2147483647) ∧ (-2147483648 ≤ (I 101 (1 : Int)) ∧ (I 101 (1 : Int)) ≤ 2147483647)) ∧ (((I 101 (1 : Int)) ≤ (I 101 (8 : Int)) → post (some (xi (-1 : Int))) I L (gG D)) ∧ ((I 101 (8 : Int)) < (I 101 (1 : Int)) → ((0 ≤ (I 101 (8 : Int)) ∧ (I 101 (8 : Int)) < (400 : Int)) ∧ post (some (xi (xand (I 102 (I 101 (8 : Int))) (255 : Int)))) I L (gG D)))))) ∧ ((I 102 (I 101 (8 : Int))) = (32 : Int) → xR d 154 es_154 0 [xr (some 101)] [] (xwr I 101 (8 : Int) ((I 101 (8 : Int)) + (1 : Int))) L (gG D) 0 0 post)))))))) : xR d 154 es_154 0 [xr (some 101)] [] I L (gG D) 0 0 post := xW_R (fun k => Nat.beq k 0) 26 _ _ _ _ _ _ _ _ _ _ _ _ h
set_option maxRecDepth 8000 in
theorem b_154 {d : Nat} {I : XI} {L : XL} {D : GD} {post : XQ} {nx : Int}   (hd : 0 ≤ d) (h : (((-2147483648 ≤ nx ∧ nx ≤ 2147483647) ∧ (-2147483648 ≤ (I 101 (1 : Int)) ∧ (I 101 (1 : Int)) ≤ 2147483647)) ∧ (((I 101 (1 : Int)) ≤ nx → ((((I 101 (1 : Int)) ≤ nx → post (some (xi (-1 : Int))) (xsc I 101 (xup (I 101) (8 : Int) nx)) L (gG D)) ∧ (nx < (I 101 (1 : Int)) → (((0 ≤ nx ∧ nx < (400 : Int))) ∧ post (some (xi (xand (I 102 nx) (255 : Int)))) (xsc I 101 (xup (I 101) (8 : Int) nx)) L (gG D)))))) ∧ (nx < (I 101 (1 : Int)) → (((0 ≤ nx ∧ nx < (400 : Int))) ∧ (((-2147483648 ≤ (I 102 nx) ∧ (I 102 nx) ≤ 2147483647)) ∧ ((¬ (I 102 nx) = (32 : Int) → ((((I 101 (1 : Int)) ≤ nx → post (some (xi (-1 : Int))) (xsc I 101 (xup (I 101) (8 : Int) nx)) L (gG D)) ∧ (nx < (I 101 (1 : Int)) → post (some (xi (xand (I 102 nx) (255 : Int)))) (xsc I 101 (xup (I 101) (8 : Int) nx)) L (gG D))))) ∧ ((I 102 nx) = (32 : Int) → xR d 154 es_154 0 [xr (some 101)] [] (xsc I 101 (xup (I 101) (8 : Int) (nx + (1 : Int)))) L (gG D) 0 0 post)))))))) : xR d 154 es_154 0 [xr (some 101)] [] (xsc I 101 (xup (I 101) (8 : Int) nx)) L (gG D) 0 0 post := sg_154_0  (⟨⟨h.1.1, h.1.2⟩, ⟨fun q3329 => ⟨⟨h.1.1, h.1.2⟩, ⟨fun q3323 => ((h.2.1 q3329).1 q3323), fun q3324 => ⟨((h.2.1 q3329).2 q3324).1, ((h.2.1 q3329).2 q3324).2⟩⟩⟩, fun q3330 => ⟨(h.2.2 q3330).1, ⟨⟨(h.2.2 q3330).2.1, (by decide)⟩, ⟨fun q3327 => ⟨⟨h.1.1, h.1.2⟩, ⟨fun q3325 => (((h.2.2 q3330).2.2.1 q3327).1 q3325), fun q3326 => ⟨(h.2.2 q3330).1, (((h.2.2 q3330).2.2.1 q3327).2 q3326)⟩⟩⟩, fun q3328 => (xR_memc ((h.2.2 q3330).2.2.2 q3328) (funext fun i => (xpt (show (xup (xup (I 101) (8 : Int) nx) (8 : Int) (nx + (1 : Int))) = (xup (I 101) (8 : Int) (nx + (1 : Int))) from by funext j; simp only [xup]; (repeat' split) <;> first | rfl | omega) (fun h101_ => (by simp only [xsc_ne _ _ h101_, xwr_ne _ _ _ h101_])))) rfl)⟩⟩⟩⟩⟩)
theorem c_154 {I : XI} {L : XL} {D : GD}    (h : (TPO (I 102) (I 101 (1 : Int)) ∧ (0 ≤ I 101 (8 : Int) ∧ I 101 (8 : Int) ≤ I 101 (1 : Int)))) : xM 0 154 [xr (some 101)] I L (gG D) (0, 0) (xD (some (xi (tc (I 102) (I 101 (1 : Int)) (sk (I 102) (I 101 (1 : Int)) (I 101 (8 : Int)))))) (xsc I 101 (xup (I 101) (8 : Int) (sk (I 102) (I 101 (1 : Int)) (I 101 (8 : Int))))) L (gG D)) := by
  intro d hd
  obtain ⟨hT, h1⟩ := h
  have key : ∀ (r : Nat) (p : Int), (I 101 1 - p).toNat = r → 0 ≤ p → p ≤ I 101 1 → xR d 154 es_154 0 [xr (some 101)] [] (xsc I 101 (xup (I 101) 8 p)) L (gG D) 0 0 (xD (some (xi (tc (I 102) (I 101 1) (sk (I 102) (I 101 1) p)))) (xsc I 101 (xup (I 101) 8 (sk (I 102) (I 101 1) p))) L (gG D)) := by
    intro r
    have hT1 := hT.1
    induction r with
    | zero =>
      intro p h0 h1 h2
      rw [sk_neg (by omega)]
      unfold tc
      rw [if_neg (by omega)]
      refine b_154 (by omega) ?_
      repeat' first | (with_reducible intro _) | (with_reducible refine And.intro ?_ ?_)
      all_goals first | omega | exact xD_in
    | succ r ih =>
      intro p h0 h1 h2
      have hb := hT.2 p h1 (by omega)
      by_cases q : I 102 p = 32
      · have := ih (p + 1) (by omega) (by omega) (by omega)
        rw [sk_pos ⟨by omega, q⟩]
        refine b_154 (by omega) ?_
        repeat' first | (with_reducible intro _) | (with_reducible refine And.intro ?_ ?_)
        all_goals first | omega | exact this
      · rw [sk_neg (fun r => q r.2)]
        unfold tc
        rw [if_pos (by omega)]
        refine b_154 (by omega) ?_
        repeat' first | (with_reducible intro _) | (with_reducible refine And.intro ?_ ?_)
        all_goals first | omega | exact xD_in
  have := key _ (I 101 8) rfl h1.1 h1.2
  exact xR_memc this (by (funext i; by_cases h101 : i = 101; (subst h101; first | rfl | exact (xcp_zero _ _ _ _).symm | exact (xup_self _ _).symm | exact (xup_self2 _ _ _).symm | exact (xup_self3 _ _ _ _).symm | exact xup_self _ _); first | rfl | simp only [xsc_ne _ _ h101])) rfl
set_option maxRecDepth 8000 in
theorem sg_155_0 {d : Nat} {I : XI} {L : XL} {D : GD} {post : XQ}  {u1 : Int} (h : (((-2147483648 ≤ u1 ∧ u1 ≤ 2147483647) ∧ (-2147483648 ≤ (I 101 (1 : Int)) ∧ (I 101 (1 : Int)) ≤ 2147483647)) ∧ (((I 101 (1 : Int)) ≤ u1 → (((0 : Int) = 0 ∨ (0 : Int) = 1) ∧ post (some (xi (0 : Int))) I L (gG D))) ∧ (u1 < (I 101 (1 : Int)) → ((0 ≤ u1 ∧ u1 < (400 : Int)) ∧ (((-2147483648 ≤ (I 102 u1) ∧ (I 102 u1) ≤ 2147483647) ∧ (-2147483648 ≤ (48 : Int) ∧ (48 : Int) ≤ 2147483647)) ∧ (((I 102 u1) < (48 : Int) → (((0 : Int) = 0 ∨ (0 : Int) = 1) ∧ post (some (xi (0 : Int))) I L (gG D))) ∧ ((48 : Int) ≤ (I 102 u1) → ((0 ≤ u1 ∧ u1 < (400 : Int)) ∧ (((-2147483648 ≤ (I 102 u1) ∧ (I 102 u1) ≤ 2147483647) ∧ (-2147483648 ≤ (57 : Int) ∧ (57 : Int) ≤ 2147483647)) ∧ (((57 : Int) < (I 102 u1) → (((0 : Int) = 0 ∨ (0 : Int) = 1) ∧ post (some (xi (0 : Int))) I L (gG D))) ∧ ((I 102 u1) ≤ (57 : Int) → (((1 : Int) = 0 ∨ (1 : Int) = 1) ∧ post (some (xi (1 : Int))) I L (gG D)))))))))))))) : xR d 155 es_155 0 [xr (some 101), xi u1] [] I L (gG D) 0 0 post := xW_R (fun k => false) 19 _ _ _ _ _ _ _ _ _ _ _ _ h
set_option maxRecDepth 8000 in
theorem w_155 {d : Nat} {I : XI} {L : XL} {D : GD} {post : XQ}   {kq : Int} (hd : 0 ≤ d) (h : (((-2147483648 ≤ kq ∧ kq ≤ 2147483647) ∧ (-2147483648 ≤ (I 101 (1 : Int)) ∧ (I 101 (1 : Int)) ≤ 2147483647)) ∧ (((I 101 (1 : Int)) ≤ kq → post (some (xi (0 : Int))) I L (gG D)) ∧ (kq < (I 101 (1 : Int)) → (((0 ≤ kq ∧ kq < (400 : Int))) ∧ (((-2147483648 ≤ (I 102 kq) ∧ (I 102 kq) ≤ 2147483647)) ∧ (((I 102 kq) < (48 : Int) → post (some (xi (0 : Int))) I L (gG D)) ∧ ((48 : Int) ≤ (I 102 kq) → ((((57 : Int) < (I 102 kq) → post (some (xi (0 : Int))) I L (gG D)) ∧ ((I 102 kq) ≤ (57 : Int) → post (some (xi (1 : Int))) I L (gG D)))))))))))) : xR d 155 es_155 0 [xr (some 101), xi kq] [] I L (gG D) 0 0 post := sg_155_0  (⟨⟨h.1.1, h.1.2⟩, ⟨fun q3335 => ⟨(by decide), (h.2.1 q3335)⟩, fun q3336 => ⟨(h.2.2 q3336).1, ⟨⟨(h.2.2 q3336).2.1, (by decide)⟩, ⟨fun q3333 => ⟨(by decide), ((h.2.2 q3336).2.2.1 q3333)⟩, fun q3334 => ⟨(h.2.2 q3336).1, ⟨⟨(h.2.2 q3336).2.1, (by decide)⟩, ⟨fun q3331 => ⟨(by decide), (((h.2.2 q3336).2.2.2 q3334).1 q3331)⟩, fun q3332 => ⟨(by decide), (((h.2.2 q3336).2.2.2 q3334).2 q3332)⟩⟩⟩⟩⟩⟩⟩⟩⟩)
theorem c_155 {I : XI} {L : XL} {D : GD}   {kq : Int} (h : (TPO (I 102) (I 101 (1 : Int)) ∧ (0 ≤ kq ∧ kq ≤ 1000))) : xM 0 155 [xr (some 101), xi kq] I L (gG D) (0, 0) (xD (some (xi (xb ((dgt (I 102) (I 101 (1 : Int)) kq) = true)))) I L (gG D)) := by
  intro d hd
  obtain ⟨hT, h1⟩ := h
  have hT1 := hT.1
  have hb := fun q => hT.2 kq h1.1 q
  have ep : (dgt (I 102) (I 101 1) kq = true) = (kq < I 101 1 ∧ 48 ≤ I 102 kq ∧ I 102 kq ≤ 57) := by unfold dgt; exact decide_eq_true_eq
  simp only [ep]
  refine w_155 (by omega) ?_
  repeat' first | (with_reducible intro _) | (with_reducible refine And.intro ?_ ?_)
  all_goals first | omega | skip
  all_goals first
    | (have := hb (by assumption); omega)
    | (rw [xb_t (by omega)]; exact xD_in)
    | (rw [xb_f (by omega)]; exact xD_in)
set_option maxRecDepth 8000 in
theorem sg_156_0 {d : Nat} {I : XI} {L : XL} {D : GD} {post : XQ}  {u1 : Int} (h : (((-2147483648 ≤ u1 ∧ u1 ≤ 2147483647) ∧ (-2147483648 ≤ (I 101 (1 : Int)) ∧ (I 101 (1 : Int)) ≤ 2147483647)) ∧ (((I 101 (1 : Int)) ≤ u1 → (((0 : Int) = 0 ∨ (0 : Int) = 1) ∧ post (some (xi (0 : Int))) I L (gG D))) ∧ (u1 < (I 101 (1 : Int)) → ((0 ≤ u1 ∧ u1 < (400 : Int)) ∧ (((-2147483648 ≤ (I 102 u1) ∧ (I 102 u1) ≤ 2147483647) ∧ (-2147483648 ≤ (97 : Int) ∧ (97 : Int) ≤ 2147483647)) ∧ (((I 102 u1) < (97 : Int) → (((0 : Int) = 0 ∨ (0 : Int) = 1) ∧ post (some (xi (0 : Int))) I L (gG D))) ∧ ((97 : Int) ≤ (I 102 u1) → ((0 ≤ u1 ∧ u1 < (400 : Int)) ∧ (((-2147483648 ≤ (I 102 u1) ∧ (I 102 u1) ≤ 2147483647) ∧ (-2147483648 ≤ (122 : Int) ∧ (122 : Int) ≤ 2147483647)) ∧ (((122 : Int) < (I 102 u1) → (((0 : Int) = 0 ∨ (0 : Int) = 1) ∧ post (some (xi (0 : Int))) I L (gG D))) ∧ ((I 102 u1) ≤ (122 : Int) → (((1 : Int) = 0 ∨ (1 : Int) = 1) ∧ post (some (xi (1 : Int))) I L (gG D)))))))))))))) : xR d 156 es_156 0 [xr (some 101), xi u1] [] I L (gG D) 0 0 post := xW_R (fun k => false) 19 _ _ _ _ _ _ _ _ _ _ _ _ h
set_option maxRecDepth 8000 in
theorem w_156 {d : Nat} {I : XI} {L : XL} {D : GD} {post : XQ}   {kq : Int} (hd : 0 ≤ d) (h : (((-2147483648 ≤ kq ∧ kq ≤ 2147483647) ∧ (-2147483648 ≤ (I 101 (1 : Int)) ∧ (I 101 (1 : Int)) ≤ 2147483647)) ∧ (((I 101 (1 : Int)) ≤ kq → post (some (xi (0 : Int))) I L (gG D)) ∧ (kq < (I 101 (1 : Int)) → (((0 ≤ kq ∧ kq < (400 : Int))) ∧ (((-2147483648 ≤ (I 102 kq) ∧ (I 102 kq) ≤ 2147483647)) ∧ (((I 102 kq) < (97 : Int) → post (some (xi (0 : Int))) I L (gG D)) ∧ ((97 : Int) ≤ (I 102 kq) → ((((122 : Int) < (I 102 kq) → post (some (xi (0 : Int))) I L (gG D)) ∧ ((I 102 kq) ≤ (122 : Int) → post (some (xi (1 : Int))) I L (gG D)))))))))))) : xR d 156 es_156 0 [xr (some 101), xi kq] [] I L (gG D) 0 0 post := sg_156_0  (⟨⟨h.1.1, h.1.2⟩, ⟨fun q3341 => ⟨(by decide), (h.2.1 q3341)⟩, fun q3342 => ⟨(h.2.2 q3342).1, ⟨⟨(h.2.2 q3342).2.1, (by decide)⟩, ⟨fun q3339 => ⟨(by decide), ((h.2.2 q3342).2.2.1 q3339)⟩, fun q3340 => ⟨(h.2.2 q3342).1, ⟨⟨(h.2.2 q3342).2.1, (by decide)⟩, ⟨fun q3337 => ⟨(by decide), (((h.2.2 q3342).2.2.2 q3340).1 q3337)⟩, fun q3338 => ⟨(by decide), (((h.2.2 q3342).2.2.2 q3340).2 q3338)⟩⟩⟩⟩⟩⟩⟩⟩⟩)
theorem c_156 {I : XI} {L : XL} {D : GD}   {kq : Int} (h : (TPO (I 102) (I 101 (1 : Int)) ∧ (0 ≤ kq ∧ kq ≤ 1000))) : xM 0 156 [xr (some 101), xi kq] I L (gG D) (0, 0) (xD (some (xi (xb ((ltr (I 102) (I 101 (1 : Int)) kq) = true)))) I L (gG D)) := by
  intro d hd
  obtain ⟨hT, h1⟩ := h
  have hT1 := hT.1
  have hb := fun q => hT.2 kq h1.1 q
  have ep : (ltr (I 102) (I 101 1) kq = true) = (kq < I 101 1 ∧ 97 ≤ I 102 kq ∧ I 102 kq ≤ 122) := by unfold ltr; exact decide_eq_true_eq
  simp only [ep]
  refine w_156 (by omega) ?_
  repeat' first | (with_reducible intro _) | (with_reducible refine And.intro ?_ ?_)
  all_goals first | omega | skip
  all_goals first
    | (have := hb (by assumption); omega)
    | (rw [xb_t (by omega)]; exact xD_in)
    | (rw [xb_f (by omega)]; exact xD_in)
set_option maxRecDepth 8000 in
theorem sg_157_0 {d : Nat} {I : XI} {L : XL} {D : GD} {post : XQ}  {u1 : Int64} (h : xR d 157 es_157 1 [xr (some 101), xl u1, xt 0, xt 0, xt 0, xt 0] [xr (some 101)] I L (gG D) 0 0 post) : xR d 157 es_157 0 [xr (some 101), xl u1, xt 0, xt 0, xt 0, xt 0] [] I L (gG D) 0 0 post := xW_R (fun k => Nat.beq k 1 || Nat.beq k 7 || Nat.beq k 12) 1 _ _ _ _ _ _ _ _ _ _ _ _ h
set_option maxRecDepth 8000 in
theorem sg_157_2 {d : Nat} {I : XI} {L : XL} {D : GD} {post : XQ}  {u1 : Int64} {w0 : Int} (h : xR d 157 es_157 7 [xr (some 101), xl u1, xt 0, xl (0 : Int64), xt 0, xi (0 : Int)] [] I L (gG D) 0 0 post) : xR d 157 es_157 2 [xr (some 101), xl u1, xt 0, xt 0, xt 0, xt 0] [xi w0] I L (gG D) 0 0 post := xW_R (fun k => Nat.beq k 1 || Nat.beq k 7 || Nat.beq k 12) 5 _ _ _ _ _ _ _ _ _ _ _ _ h
set_option maxRecDepth 8000 in
theorem w_157 {d : Nat} {I : XI} {L : XL} {D : GD} {post : XQ}   {w : Int64} (hd : 1 ≤ d) (h : ((TPO (I 102) (I 101 (1 : Int)) ∧ (0 ≤ I 101 (8 : Int) ∧ I 101 (8 : Int) ≤ I 101 (1 : Int))) ∧ xR d 157 es_157 7 [xr (some 101), xl w, xt 0, xl (0 : Int64), xt 0, xi (0 : Int)] [] (xsc I 101 (xup (I 101) (8 : Int) (sk (I 102) (I 101 (1 : Int)) (I 101 (8 : Int))))) L (gG D) 0 0 post)) : xR d 157 es_157 0 [xr (some 101), xl w, xt 0, xt 0, xt 0, xt 0] [] I L (gG D) 0 0 post := sg_157_0  ((xR_cF rfl rfl rfl (c_154 h.1) (by omega) (sg_157_2  h.2)))
set_option maxRecDepth 8000 in
theorem sg_157_7 {d : Nat} {I : XI} {L : XL} {D : GD} {post : XQ}  {u1 : Int64} {u3 : Int64} {u5 : Int} (h : xR d 157 es_157 12 [xr (some 101), xl u1, xt 0, xl u3, xt 0, xi u5] [xi ((I 101 (8 : Int)) + u5), xr (some 101)] I L (gG D) 0 0 post) : xR d 157 es_157 7 [xr (some 101), xl u1, xt 0, xl u3, xt 0, xi u5] [] I L (gG D) 0 0 post := xW_R (fun k => Nat.beq k 1 || Nat.beq k 7 || Nat.beq k 12) 5 _ _ _ _ _ _ _ _ _ _ _ _ h
set_option maxRecDepth 8000 in
theorem sg_157_13 {d : Nat} {I : XI} {L : XL} {D : GD} {post : XQ}  {u1 : Int64} {u3 : Int64} {u5 : Int} {w0 : Int} (h : ((-2147483648 ≤ w0 ∧ w0 ≤ 2147483647) ∧ ((w0 = 0 → ((-2147483648 ≤ u5 ∧ u5 ≤ 2147483647) ∧ ((u5 ≤ 0 → (((0 : Int) = 0 ∨ (0 : Int) = 1) ∧ post (some (xi (0 : Int))) I L (gG D))) ∧ (0 < u5 → (((-2147483648 ≤ u5 ∧ u5 ≤ 2147483647) ∧ (-2147483648 ≤ (8 : Int) ∧ (8 : Int) ≤ 2147483647)) ∧ (((8 : Int) ≤ u5 → (((0 : Int) = 0 ∨ (0 : Int) = 1) ∧ post (some (xi (0 : Int))) I L (gG D))) ∧ (u5 < (8 : Int) → ((-2147483648 ≤ (xlcm u3 u1) ∧ (xlcm u3 u1) ≤ 2147483647) ∧ ((¬ (xlcm u3 u1) = 0 → (((0 : Int) = 0 ∨ (0 : Int) = 1) ∧ post (some (xi (0 : Int))) I L (gG D))) ∧ ((xlcm u3 u1) = 0 → (((1 : Int) = 0 ∨ (1 : Int) = 1) ∧ post (some (xi (1 : Int))) I L (gG D)))))))))))) ∧ (¬ w0 = 0 → (((-2147483648 ≤ u5 ∧ u5 ≤ 2147483647) ∧ (-2147483648 ≤ (8 : Int) ∧ (8 : Int) ≤ 2147483647)) ∧ (((8 : Int) ≤ u5 → xR d 157 es_157 7 [xr (some 101), xl u1, xt 0, xl u3, xt 0, xi (u5 + (1 : Int))] [] I L (gG D) 0 0 post) ∧ (u5 < (8 : Int) → ((0 ≤ ((I 101 (8 : Int)) + u5) ∧ ((I 101 (8 : Int)) + u5) < (400 : Int)) ∧ ((-2147483648 ≤ (I 102 ((I 101 (8 : Int)) + u5)) ∧ (I 102 ((I 101 (8 : Int)) + u5)) ≤ 2147483647) ∧ xR d 157 es_157 7 [xr (some 101), xl u1, xt 0, xl ((xlsh u3 (8 : Int)) ||| (Int64.ofInt (I 102 ((I 101 (8 : Int)) + u5)))), xt 0, xi (u5 + (1 : Int))] [] I L (gG D) 0 0 post))))))))) : xR d 157 es_157 13 [xr (some 101), xl u1, xt 0, xl u3, xt 0, xi u5] [xi w0] I L (gG D) 0 0 post := xW_R (fun k => Nat.beq k 1 || Nat.beq k 7 || Nat.beq k 12) 19 _ _ _ _ _ _ _ _ _ _ _ _ h
set_option maxRecDepth 8000 in
theorem b_157 {d : Nat} {I : XI} {L : XL} {D : GD} {post : XQ} {nx : Int}  {w : Int64} {v : Int64} {k0 : Int} (hd : 1 ≤ d) (h : ((TPO (I 102) (I 101 (1 : Int)) ∧ (0 ≤ (nx + k0) ∧ (nx + k0) ≤ 1000)) ∧ (((¬ ((ltr (I 102) (I 101 (1 : Int)) (nx + k0)) = true) → (((-2147483648 ≤ k0 ∧ k0 ≤ 2147483647)) ∧ ((k0 ≤ 0 → post (some (xi (0 : Int))) (xsc I 101 (xup (I 101) (8 : Int) nx)) L (gG D)) ∧ (0 < k0 → ((((8 : Int) ≤ k0 → post (some (xi (0 : Int))) (xsc I 101 (xup (I 101) (8 : Int) nx)) L (gG D)) ∧ (k0 < (8 : Int) → (((¬ (xlcm v w) = 0 → post (some (xi (0 : Int))) (xsc I 101 (xup (I 101) (8 : Int) nx)) L (gG D)) ∧ ((xlcm v w) = 0 → post (some (xi (1 : Int))) (xsc I 101 (xup (I 101) (8 : Int) nx)) L (gG D))))))))))) ∧ ((ltr (I 102) (I 101 (1 : Int)) (nx + k0)) = true → (((-2147483648 ≤ k0 ∧ k0 ≤ 2147483647)) ∧ (((8 : Int) ≤ k0 → xR d 157 es_157 7 [xr (some 101), xl w, xt 0, xl v, xt 0, xi (k0 + (1 : Int))] [] (xsc I 101 (xup (I 101) (8 : Int) nx)) L (gG D) 0 0 post) ∧ (k0 < (8 : Int) → (((0 ≤ (nx + k0) ∧ (nx + k0) < (400 : Int))) ∧ (((-2147483648 ≤ (I 102 (nx + k0)) ∧ (I 102 (nx + k0)) ≤ 2147483647)) ∧ xR d 157 es_157 7 [xr (some 101), xl w, xt 0, xl ((xlsh v (8 : Int)) ||| (Int64.ofInt (I 102 (nx + k0)))), xt 0, xi (k0 + (1 : Int))] [] (xsc I 101 (xup (I 101) (8 : Int) nx)) L (gG D) 0 0 post)))))))))) : xR d 157 es_157 7 [xr (some 101), xl w, xt 0, xl v, xt 0, xi k0] [] (xsc I 101 (xup (I 101) (8 : Int) nx)) L (gG D) 0 0 post := sg_157_7  ((xR_cF rfl rfl rfl (c_156 h.1) (by omega) (sg_157_13  ⟨(xb_rg _), ⟨fun q3351 => ⟨(h.2.1 (xb_0 q3351)).1, ⟨fun q3347 => ⟨(by decide), ((h.2.1 (xb_0 q3351)).2.1 q3347)⟩, fun q3348 => ⟨⟨(h.2.1 (xb_0 q3351)).1, (by decide)⟩, ⟨fun q3345 => ⟨(by decide), (((h.2.1 (xb_0 q3351)).2.2 q3348).1 q3345)⟩, fun q3346 => ⟨(xlcm_rg _ _), ⟨fun q3343 => ⟨(by decide), ((((h.2.1 (xb_0 q3351)).2.2 q3348).2 q3346).1 q3343)⟩, fun q3344 => ⟨(by decide), ((((h.2.1 (xb_0 q3351)).2.2 q3348).2 q3346).2 q3344)⟩⟩⟩⟩⟩⟩⟩, fun q3352 => ⟨⟨(h.2.2 (xb_n0 q3352)).1, (by decide)⟩, ⟨fun q3349 => ((h.2.2 (xb_n0 q3352)).2.1 q3349), fun q3350 => ⟨((h.2.2 (xb_n0 q3352)).2.2 q3350).1, ⟨((h.2.2 (xb_n0 q3352)).2.2 q3350).2.1, ((h.2.2 (xb_n0 q3352)).2.2 q3350).2.2⟩⟩⟩⟩⟩⟩)))
theorem c_157 {I : XI} {L : XL} {D : GD}   {w : Int64} (h : (TPO (I 102) (I 101 (1 : Int)) ∧ (0 ≤ I 101 (8 : Int) ∧ I 101 (8 : Int) ≤ I 101 (1 : Int)))) : xM 1 157 [xr (some 101), xl w] I L (gG D) (0, 0) (xD (some (xi (xb (twd (I 102) (I 101 (1 : Int)) (sk (I 102) (I 101 (1 : Int)) (I 101 (8 : Int))) w = true)))) (xsc I 101 (xup (I 101) (8 : Int) (sk (I 102) (I 101 (1 : Int)) (I 101 (8 : Int))))) L (gG D)) := by
  intro d hd
  obtain ⟨hT, h1⟩ := h
  have hT1 := hT.1
  have hs := sk_in (b := I 102) h1.2
  have hS9 : TPO (I 102) (I 101 1) ∧ (0 ≤ I 101 8 ∧ I 101 8 ≤ I 101 1) := ⟨hT, h1⟩
  obtain ⟨q, hq⟩ : ∃ q, sk (I 102) (I 101 1) (I 101 8) = q := ⟨_, rfl⟩
  rw [hq] at hs
  have hl := le_all (b := I 102) (n := I 101 1) (p := q)
  have hl2 := hl.1.2 hs.2
  have ep : (twd (I 102) (I 101 1) q w = true) = (0 < le_ (I 102) (I 101 1) q - q ∧ le_ (I 102) (I 101 1) q - q < 8 ∧ wk (I 102) q (le_ (I 102) (I 101 1) q - q).toNat = w) := by unfold twd; exact decide_eq_true_eq
  refine w_157 (by omega) ?_
  simp only [hq, ep]
  refine ⟨hS9, ?_⟩
  have key : ∀ k : Nat, k ≤ (le_ (I 102) (I 101 1) q - q).toNat → xR d 157 es_157 7 [xr (some 101), xl w, xt 0, xl (wk (I 102) q k), xt 0, xi (k : Int)] [] (xsc I 101 (xup (I 101) (8 : Int) q)) L (gG D) 0 0 (xD (some (xi (xb (0 < le_ (I 102) (I 101 1) q - q ∧ le_ (I 102) (I 101 1) q - q < 8 ∧ wk (I 102) q (le_ (I 102) (I 101 1) q - q).toNat = w)))) (xsc I 101 (xup (I 101) 8 q)) L (gG D)) := by
    refine xfor ?_ ?_
    · have eq2 : q + (((le_ (I 102) (I 101 1) q - q).toNat : Nat) : Int) = le_ (I 102) (I 101 1) q := by omega
      have hno : ¬ ltr (I 102) (I 101 1) (q + (((le_ (I 102) (I 101 1) q - q).toNat : Nat) : Int)) = true := by rw [eq2]; exact hl.2.2
      refine b_157 (by omega) ?_
      repeat' first | (with_reducible intro _) | (with_reducible refine And.intro ?_ ?_)
      all_goals first | omega | assumption | skip
      all_goals first
        | (exact absurd (by assumption) hno)
        | (rename_i r; rw [xl_eq] at r; rw [xb_t ⟨by omega, by omega, r⟩]; exact xD_in)
        | (rename_i r; rw [xl_eq] at r; rw [xb_f (fun z => r z.2.2)]; exact xD_in)
        | (rw [xb_f (by omega)]; exact xD_in)
    · intro k hk ih 
      have hk1 := hl.2.1 (q + (k : Int)) (by omega) (by omega)
      have hkb := of_decide_eq_true hk1
      have e : wk (I 102) q (k + 1) = if (k : Int) < 8 then xlsh (wk (I 102) q k) 8 ||| Int64.ofInt (I 102 (q + (k : Int))) else wk (I 102) q k := rfl
      refine b_157 (by omega) ?_
      repeat' first | (with_reducible intro _) | (with_reducible refine And.intro ?_ ?_)
      all_goals first | omega | assumption | skip
      all_goals first
        | (exact absurd hk1 (by assumption))
        | (rw [if_pos (by assumption)] at e; rw [e] at ih; exact ih)
        | (rw [if_neg (by omega)] at e; rw [e] at ih; exact ih)
  exact key 0 (Nat.zero_le _)
set_option maxRecDepth 8000 in
theorem sg_158_0 {d : Nat} {I : XI} {L : XL} {D : GD} {post : XQ}   (h : xR d 158 es_158 3 [xr (some 101)] [xi (I 101 (8 : Int)), xr (some 101)] I L (gG D) 0 0 post) : xR d 158 es_158 0 [xr (some 101)] [] I L (gG D) 0 0 post := xW_R (fun k => Nat.beq k 0 || Nat.beq k 3) 3 _ _ _ _ _ _ _ _ _ _ _ _ h
set_option maxRecDepth 8000 in
theorem sg_158_4 {d : Nat} {I : XI} {L : XL} {D : GD} {post : XQ}  {w0 : Int} (h : ((-2147483648 ≤ w0 ∧ w0 ≤ 2147483647) ∧ ((w0 = 0 → post none I L (gG D)) ∧ (¬ w0 = 0 → xR d 158 es_158 0 [xr (some 101)] [] (xwr I 101 (8 : Int) ((I 101 (8 : Int)) + (1 : Int))) L (gG D) 0 0 post)))) : xR d 158 es_158 4 [xr (some 101)] [xi w0] I L (gG D) 0 0 post := xW_R (fun k => Nat.beq k 0 || Nat.beq k 3) 8 _ _ _ _ _ _ _ _ _ _ _ _ h
set_option maxRecDepth 8000 in
theorem b_158 {d : Nat} {I : XI} {L : XL} {D : GD} {post : XQ} {nx : Int}   (hd : 1 ≤ d) (h : ((TPO (I 102) (I 101 (1 : Int)) ∧ (0 ≤ nx ∧ nx ≤ 1000)) ∧ (((¬ ((ltr (I 102) (I 101 (1 : Int)) nx) = true) → post none (xsc I 101 (xup (I 101) (8 : Int) nx)) L (gG D)) ∧ ((ltr (I 102) (I 101 (1 : Int)) nx) = true → xR d 158 es_158 0 [xr (some 101)] [] (xsc I 101 (xup (I 101) (8 : Int) (nx + (1 : Int)))) L (gG D) 0 0 post))))) : xR d 158 es_158 0 [xr (some 101)] [] (xsc I 101 (xup (I 101) (8 : Int) nx)) L (gG D) 0 0 post := sg_158_0  ((xR_cF rfl rfl rfl (c_156 h.1) (by omega) (sg_158_4  ⟨(xb_rg _), ⟨fun q3353 => (h.2.1 (xb_0 q3353)), fun q3354 => (xR_memc (h.2.2 (xb_n0 q3354)) (funext fun i => (xpt (show (xup (xup (I 101) (8 : Int) nx) (8 : Int) (nx + (1 : Int))) = (xup (I 101) (8 : Int) (nx + (1 : Int))) from by funext j; simp only [xup]; (repeat' split) <;> first | rfl | omega) (fun h101_ => (by simp only [xsc_ne _ _ h101_, xwr_ne _ _ _ h101_])))) rfl)⟩⟩)))
theorem c_158 {I : XI} {L : XL} {D : GD}    (h : (TPO (I 102) (I 101 (1 : Int)) ∧ (0 ≤ I 101 (8 : Int) ∧ I 101 (8 : Int) ≤ I 101 (1 : Int)))) : xM 1 158 [xr (some 101)] I L (gG D) (0, 0) (xD none (xsc I 101 (xup (I 101) (8 : Int) (le_ (I 102) (I 101 (1 : Int)) (I 101 (8 : Int))))) L (gG D)) := by
  intro d hd
  obtain ⟨hT, h1⟩ := h
  have hT1 := hT.1
  have hl := le_all (b := I 102) (n := I 101 1) (p := I 101 8)
  have hl2 := hl.1.2 h1.2
  have key : ∀ k : Nat, k ≤ (le_ (I 102) (I 101 1) (I 101 8) - I 101 8).toNat → xR d 158 es_158 0 [xr (some 101)] [] (xsc I 101 (xup (I 101) (8 : Int) (I 101 8 + (k : Int)))) L (gG D) 0 0 (xD none (xsc I 101 (xup (I 101) 8 (le_ (I 102) (I 101 1) (I 101 8)))) L (gG D)) := by
    refine xfor ?_ ?_
    · have eq2 : I 101 8 + (((le_ (I 102) (I 101 1) (I 101 8) - I 101 8).toNat : Nat) : Int) = le_ (I 102) (I 101 1) (I 101 8) := by omega
      refine b_158 (by omega) ?_
      repeat' first | (with_reducible intro _) | (with_reducible refine And.intro ?_ ?_)
      all_goals first | omega | assumption | skip
      all_goals first
        | (exact absurd (by rename_i r; rw [eq2] at r; exact r) hl.2.2)
        | (rw [eq2]; exact xD_in)
    · intro k hk ih 
      have hk1 := hl.2.1 (I 101 8 + (k : Int)) (by omega) (by omega)
      rw [show I 101 8 + ((k + 1 : Nat) : Int) = I 101 8 + (k : Int) + 1 by omega] at ih
      refine b_158 (by omega) ?_
      repeat' first | (with_reducible intro _) | (with_reducible refine And.intro ?_ ?_)
      all_goals first | omega | assumption | skip
      all_goals first | (exact absurd hk1 (by assumption)) | exact ih
  have k0 := key 0 (Nat.zero_le _)
  rw [show I 101 8 + ((0 : Nat) : Int) = I 101 8 by omega] at k0
  exact xR_memc k0 (by (funext i; by_cases h101 : i = 101; (subst h101; first | rfl | exact (xcp_zero _ _ _ _).symm | exact (xup_self _ _).symm | exact (xup_self2 _ _ _).symm | exact (xup_self3 _ _ _ _).symm | exact xup_self _ _); first | rfl | simp only [xsc_ne _ _ h101])) rfl
set_option maxRecDepth 8000 in
theorem sg_160_0 {d : Nat} {I : XI} {L : XL} {D : GD} {post : XQ}  {u1 : Int} {u2 : Int} (h : xR d 160 es_160 1 [xr (some 101), xi u1, xi u2, xt 0, xt 0] [xr (some 101)] I L (gG D) 0 0 post) : xR d 160 es_160 0 [xr (some 101), xi u1, xi u2, xt 0, xt 0] [] I L (gG D) 0 0 post := xW_R (fun k => Nat.beq k 1 || Nat.beq k 6 || Nat.beq k 12 || Nat.beq k 19 || Nat.beq k 22 || Nat.beq k 64 || Nat.beq k 69) 1 _ _ _ _ _ _ _ _ _ _ _ _ h
set_option maxRecDepth 8000 in
theorem sg_160_2 {d : Nat} {I : XI} {L : XL} {D : GD} {post : XQ}  {u1 : Int} {u2 : Int} {w0 : Int} (h : xR d 160 es_160 6 [xr (some 101), xi u1, xi u2, xt 0, xt 0] [xi (I 101 (8 : Int)), xr (some 101)] I L (gG D) 0 0 post) : xR d 160 es_160 2 [xr (some 101), xi u1, xi u2, xt 0, xt 0] [xi w0] I L (gG D) 0 0 post := xW_R (fun k => Nat.beq k 1 || Nat.beq k 6 || Nat.beq k 12 || Nat.beq k 19 || Nat.beq k 22 || Nat.beq k 64 || Nat.beq k 69) 4 _ _ _ _ _ _ _ _ _ _ _ _ h
set_option maxRecDepth 8000 in
theorem sg_160_7 {d : Nat} {I : XI} {L : XL} {D : GD} {post : XQ}  {u1 : Int} {u2 : Int} {w0 : Int} (h : ((-2147483648 ≤ w0 ∧ w0 ≤ 2147483647) ∧ ((¬ w0 = 0 → xR d 160 es_160 19 [xr (some 101), xi u1, xi u2, xi (I 101 (8 : Int)), xi (0 : Int)] [] I L (gG D) 0 0 post) ∧ (w0 = 0 → xR d 160 es_160 12 [xr (some 101), xi u1, xi u2, xt 0, xt 0] [xi (I 101 (8 : Int)), xi (0 : Int), xr (some 101)] I L (gG D) 0 0 post)))) : xR d 160 es_160 7 [xr (some 101), xi u1, xi u2, xt 0, xt 0] [xi w0] I L (gG D) 0 0 post := xW_R (fun k => Nat.beq k 1 || Nat.beq k 6 || Nat.beq k 12 || Nat.beq k 19 || Nat.beq k 22 || Nat.beq k 64 || Nat.beq k 69) 6 _ _ _ _ _ _ _ _ _ _ _ _ h
set_option maxRecDepth 8000 in
theorem sg_160_13 {d : Nat} {I : XI} {L : XL} {D : GD} {post : XQ}  {u1 : Int} {u2 : Int} {w0 : Int} (h : ((w0 = 0 ∨ w0 = 1) ∧ post (some (xi w0)) I L (gG D))) : xR d 160 es_160 13 [xr (some 101), xi u1, xi u2, xt 0, xt 0] [xi w0] I L (gG D) 0 0 post := xW_R (fun k => Nat.beq k 1 || Nat.beq k 6 || Nat.beq k 12 || Nat.beq k 19 || Nat.beq k 22 || Nat.beq k 64 || Nat.beq k 69) 1 _ _ _ _ _ _ _ _ _ _ _ _ h
set_option maxRecDepth 8000 in
theorem w_160 {d : Nat} {I : XI} {L : XL} {D : GD} {post : XQ}   {lo : Int} {hi : Int} (hd : 1 ≤ d) (h : ((TPO (I 102) (I 101 (1 : Int)) ∧ (0 ≤ I 101 (8 : Int) ∧ I 101 (8 : Int) ≤ I 101 (1 : Int))) ∧ ((TPO (I 102) (I 101 (1 : Int)) ∧ (0 ≤ (sk (I 102) (I 101 (1 : Int)) (I 101 (8 : Int))) ∧ (sk (I 102) (I 101 (1 : Int)) (I 101 (8 : Int))) ≤ 1000)) ∧ ((((dgt (I 102) (I 101 (1 : Int)) (sk (I 102) (I 101 (1 : Int)) (I 101 (8 : Int)))) = true → xR d 160 es_160 19 [xr (some 101), xi lo, xi hi, xi (sk (I 102) (I 101 (1 : Int)) (I 101 (8 : Int))), xi (0 : Int)] [] (xsc I 101 (xup (I 101) (8 : Int) (sk (I 102) (I 101 (1 : Int)) (I 101 (8 : Int))))) L (gG D) 0 0 post) ∧ (¬ ((dgt (I 102) (I 101 (1 : Int)) (sk (I 102) (I 101 (1 : Int)) (I 101 (8 : Int)))) = true) → (I 101 (9 : Int) = 0 ∧ post (some (xi (xb (False)))) (xsc I 101 (xup (xup (I 101) (8 : Int) (sk (I 102) (I 101 (1 : Int)) (I 101 (8 : Int)))) (9 : Int) (1 + 8 * (sk (I 102) (I 101 (1 : Int)) (I 101 (8 : Int))) + (0 : Int)))) L (gG D)))))))) : xR d 160 es_160 0 [xr (some 101), xi lo, xi hi, xt 0, xt 0] [] I L (gG D) 0 0 post := sg_160_0  ((xR_cF rfl rfl rfl (c_154 h.1) (by omega) (sg_160_2  (xR_cF rfl rfl rfl (c_155 h.2.1) (by omega) (sg_160_7  ⟨(xb_rg _), ⟨fun q3355 => (h.2.2.1 (xb_n0 q3355)), fun q3356 => (xR_cF rfl rfl rfl (c_153 (h.2.2.2 (xb_0 q3356)).1) (by omega) (sg_160_13  ⟨(xb_01 _), (xpost (h.2.2.2 (xb_0 q3356)).2 (funext fun i => (xpt rfl (fun h101_ => (by simp only [xsc_ne _ _ h101_, xwr_ne _ _ _ h101_])))) rfl)⟩))⟩⟩)))))
set_option maxRecDepth 8000 in
theorem sg_160_19 {d : Nat} {I : XI} {L : XL} {D : GD} {post : XQ}  {u1 : Int} {u2 : Int} {u3 : Int} {u4 : Int} (h : xR d 160 es_160 22 [xr (some 101), xi u1, xi u2, xi u3, xi u4] [xi (I 101 (8 : Int)), xr (some 101)] I L (gG D) 0 0 post) : xR d 160 es_160 19 [xr (some 101), xi u1, xi u2, xi u3, xi u4] [] I L (gG D) 0 0 post := xW_R (fun k => Nat.beq k 1 || Nat.beq k 6 || Nat.beq k 12 || Nat.beq k 19 || Nat.beq k 22 || Nat.beq k 64 || Nat.beq k 69) 3 _ _ _ _ _ _ _ _ _ _ _ _ h
set_option maxRecDepth 8000 in
theorem sg_160_23 {d : Nat} {I : XI} {L : XL} {D : GD} {post : XQ}  {u1 : Int} {u2 : Int} {u3 : Int} {u4 : Int} {w0 : Int} (h : ((-2147483648 ≤ w0 ∧ w0 ≤ 2147483647) ∧ ((w0 = 0 → (((-2147483648 ≤ ((I 101 (8 : Int)) - u3) ∧ ((I 101 (8 : Int)) - u3) ≤ 2147483647) ∧ (-2147483648 ≤ (5 : Int) ∧ (5 : Int) ≤ 2147483647)) ∧ (((5 : Int) < ((I 101 (8 : Int)) - u3) → xR d 160 es_160 69 [xr (some 101), xi u1, xi u2, xi u3, xi u4] [xi u3, xi (1 : Int), xr (some 101)] (xwr I 101 (10 : Int) u4) L (gG D) 0 0 post) ∧ (((I 101 (8 : Int)) - u3) ≤ (5 : Int) → ((-2147483648 ≤ u4 ∧ u4 ≤ 2147483647) ∧ ((-2147483648 ≤ u1 ∧ u1 ≤ 2147483647) ∧ ((-2147483648 ≤ u2 ∧ u2 ≤ 2147483647) ∧ xR d 160 es_160 64 [xr (some 101), xi u1, xi u2, xi u3, xi u4] [xl (Int64.ofInt u2), xl (Int64.ofInt u1), xl (Int64.ofInt u4)] (xwr I 101 (10 : Int) u4) L (gG D) 0 0 post))))))) ∧ (¬ w0 = 0 → (((-2147483648 ≤ ((I 101 (8 : Int)) - u3) ∧ ((I 101 (8 : Int)) - u3) ≤ 2147483647) ∧ (-2147483648 ≤ (5 : Int) ∧ (5 : Int) ≤ 2147483647)) ∧ (((5 : Int) ≤ ((I 101 (8 : Int)) - u3) → xR d 160 es_160 19 [xr (some 101), xi u1, xi u2, xi u3, xi u4] [] (xwr I 101 (8 : Int) ((I 101 (8 : Int)) + (1 : Int))) L (gG D) 0 0 post) ∧ (((I 101 (8 : Int)) - u3) < (5 : Int) → ((0 ≤ (I 101 (8 : Int)) ∧ (I 101 (8 : Int)) < (400 : Int)) ∧ xR d 160 es_160 19 [xr (some 101), xi u1, xi u2, xi u3, xi ((((10 : Int) * u4) + (I 102 (I 101 (8 : Int)))) - (48 : Int))] [] (xwr I 101 (8 : Int) ((I 101 (8 : Int)) + (1 : Int))) L (gG D) 0 0 post)))))))) : xR d 160 es_160 23 [xr (some 101), xi u1, xi u2, xi u3, xi u4] [xi w0] I L (gG D) 0 0 post := xW_R (fun k => Nat.beq k 1 || Nat.beq k 6 || Nat.beq k 12 || Nat.beq k 19 || Nat.beq k 22 || Nat.beq k 64 || Nat.beq k 69) 26 _ _ _ _ _ _ _ _ _ _ _ _ h
set_option maxRecDepth 8000 in
theorem sg_160_70 {d : Nat} {I : XI} {L : XL} {D : GD} {post : XQ}  {u1 : Int} {u2 : Int} {u3 : Int} {u4 : Int} {w0 : Int} (h : ((-2147483648 ≤ w0 ∧ w0 ≤ 2147483647) ∧ ((w0 = 0 → (((0 : Int) = 0 ∨ (0 : Int) = 1) ∧ post (some (xi (0 : Int))) I L (gG D))) ∧ (¬ w0 = 0 → (((1 : Int) = 0 ∨ (1 : Int) = 1) ∧ post (some (xi (1 : Int))) I L (gG D)))))) : xR d 160 es_160 70 [xr (some 101), xi u1, xi u2, xi u3, xi u4] [xi w0] I L (gG D) 0 0 post := xW_R (fun k => Nat.beq k 1 || Nat.beq k 6 || Nat.beq k 12 || Nat.beq k 19 || Nat.beq k 22 || Nat.beq k 64 || Nat.beq k 69) 4 _ _ _ _ _ _ _ _ _ _ _ _ h
set_option maxRecDepth 8000 in
theorem sg_160_65 {d : Nat} {I : XI} {L : XL} {D : GD} {post : XQ}  {u1 : Int} {u2 : Int} {u3 : Int} {u4 : Int} {w0 : Int} (h : ((-2147483648 ≤ w0 ∧ w0 ≤ 2147483647) ∧ ((¬ w0 = 0 → (((1 : Int) = 0 ∨ (1 : Int) = 1) ∧ post (some (xi (1 : Int))) I L (gG D))) ∧ (w0 = 0 → xR d 160 es_160 69 [xr (some 101), xi u1, xi u2, xi u3, xi u4] [xi u3, xi (1 : Int), xr (some 101)] I L (gG D) 0 0 post)))) : xR d 160 es_160 65 [xr (some 101), xi u1, xi u2, xi u3, xi u4] [xi w0] I L (gG D) 0 0 post := xW_R (fun k => Nat.beq k 1 || Nat.beq k 6 || Nat.beq k 12 || Nat.beq k 19 || Nat.beq k 22 || Nat.beq k 64 || Nat.beq k 69) 4 _ _ _ _ _ _ _ _ _ _ _ _ h
set_option maxRecDepth 8000 in
theorem b_160 {d : Nat} {I : XI} {L : XL} {D : GD} {post : XQ} {nx : Int}  {lo : Int} {hi : Int} {at_ : Int} {v : Int} (hd : 1 ≤ d) (h : ((TPO (I 102) (I 101 (1 : Int)) ∧ (0 ≤ nx ∧ nx ≤ 1000)) ∧ (((¬ ((dgt (I 102) (I 101 (1 : Int)) nx) = true) → (((-2147483648 ≤ (nx - at_) ∧ (nx - at_) ≤ 2147483647)) ∧ (((5 : Int) < (nx - at_) → (I 101 (9 : Int) = 0 ∧ (((¬ (False) → post (some (xi (0 : Int))) (xsc I 101 (xup (xup (xup (I 101) (8 : Int) nx) (9 : Int) (1 + 8 * at_ + (1 : Int))) (10 : Int) v)) L (gG D)) ∧ (False → post (some (xi (1 : Int))) (xsc I 101 (xup (xup (xup (I 101) (8 : Int) nx) (9 : Int) (1 + 8 * at_ + (1 : Int))) (10 : Int) v)) L (gG D)))))) ∧ ((nx - at_) ≤ (5 : Int) → (((-2147483648 ≤ v ∧ v ≤ 2147483647)) ∧ (((-2147483648 ≤ lo ∧ lo ≤ 2147483647)) ∧ (((-2147483648 ≤ hi ∧ hi ≤ 2147483647)) ∧ (((-2147483648 ≤ v ∧ v ≤ 2147483647) ∧ (-2147483648 ≤ lo ∧ lo ≤ 2147483647) ∧ (-2147483648 ≤ hi ∧ hi ≤ 2147483647)) ∧ (((lo ≤ v ∧ v ≤ hi → post (some (xi (1 : Int))) (xsc I 101 (xup (xup (I 101) (8 : Int) nx) (10 : Int) v)) L (gG D)) ∧ (¬ (lo ≤ v ∧ v ≤ hi) → (I 101 (9 : Int) = 0 ∧ (((¬ (False) → post (some (xi (0 : Int))) (xsc I 101 (xup (xup (xup (I 101) (8 : Int) nx) (9 : Int) (1 + 8 * at_ + (1 : Int))) (10 : Int) v)) L (gG D)) ∧ (False → post (some (xi (1 : Int))) (xsc I 101 (xup (xup (xup (I 101) (8 : Int) nx) (9 : Int) (1 + 8 * at_ + (1 : Int))) (10 : Int) v)) L (gG D)))))))))))))))) ∧ ((dgt (I 102) (I 101 (1 : Int)) nx) = true → (((-2147483648 ≤ (nx - at_) ∧ (nx - at_) ≤ 2147483647)) ∧ (((5 : Int) ≤ (nx - at_) → xR d 160 es_160 19 [xr (some 101), xi lo, xi hi, xi at_, xi v] [] (xsc I 101 (xup (I 101) (8 : Int) (nx + (1 : Int)))) L (gG D) 0 0 post) ∧ ((nx - at_) < (5 : Int) → (((0 ≤ nx ∧ nx < (400 : Int))) ∧ xR d 160 es_160 19 [xr (some 101), xi lo, xi hi, xi at_, xi ((((10 : Int) * v) + (I 102 nx)) - (48 : Int))] [] (xsc I 101 (xup (I 101) (8 : Int) (nx + (1 : Int)))) L (gG D) 0 0 post))))))))) : xR d 160 es_160 19 [xr (some 101), xi lo, xi hi, xi at_, xi v] [] (xsc I 101 (xup (I 101) (8 : Int) nx)) L (gG D) 0 0 post := sg_160_19  ((xR_cF rfl rfl rfl (c_155 h.1) (by omega) (sg_160_23  ⟨(xb_rg _), ⟨fun q3367 => ⟨⟨(h.2.1 (xb_0 q3367)).1, (by decide)⟩, ⟨fun q3363 => (xR_cF rfl rfl rfl (c_153 ((h.2.1 (xb_0 q3367)).2.1 q3363).1) (by omega) (sg_160_70  ⟨(xb_rg _), ⟨fun q3357 => ⟨(by decide), (xpost (((h.2.1 (xb_0 q3367)).2.1 q3363).2.1 (xb_0 q3357)) (funext fun i => (xpt (show (xup (xup (xup (I 101) (8 : Int) nx) (10 : Int) v) (9 : Int) (1 + 8 * at_ + (1 : Int))) = (xup (xup (xup (I 101) (8 : Int) nx) (9 : Int) (1 + 8 * at_ + (1 : Int))) (10 : Int) v) from by funext j; simp only [xup]; (repeat' split) <;> first | rfl | omega) (fun h101_ => (by simp only [xsc_ne _ _ h101_, xwr_ne _ _ _ h101_])))) rfl)⟩, fun q3358 => ⟨(by decide), (xpost (((h.2.1 (xb_0 q3367)).2.1 q3363).2.2 (xb_n0 q3358)) (funext fun i => (xpt (show (xup (xup (xup (I 101) (8 : Int) nx) (10 : Int) v) (9 : Int) (1 + 8 * at_ + (1 : Int))) = (xup (xup (xup (I 101) (8 : Int) nx) (9 : Int) (1 + 8 * at_ + (1 : Int))) (10 : Int) v) from by funext j; simp only [xup]; (repeat' split) <;> first | rfl | omega) (fun h101_ => (by simp only [xsc_ne _ _ h101_, xwr_ne _ _ _ h101_])))) rfl)⟩⟩⟩)), fun q3364 => ⟨((h.2.1 (xb_0 q3367)).2.2 q3364).1, ⟨((h.2.1 (xb_0 q3367)).2.2 q3364).2.1, ⟨((h.2.1 (xb_0 q3367)).2.2 q3364).2.2.1, (xR_cF rfl rfl rfl (c_147 ((h.2.1 (xb_0 q3367)).2.2 q3364).2.2.2.1) (by omega) (sg_160_65  ⟨(xb_rg _), ⟨fun q3361 => ⟨(by decide), (xpost (((h.2.1 (xb_0 q3367)).2.2 q3364).2.2.2.2.1 (xb_n0 q3361)) (funext fun i => (xpt rfl (fun h101_ => (by simp only [xsc_ne _ _ h101_, xwr_ne _ _ _ h101_])))) rfl)⟩, fun q3362 => (xR_cF rfl rfl rfl (c_153 (((h.2.1 (xb_0 q3367)).2.2 q3364).2.2.2.2.2 (xb_0 q3362)).1) (by omega) (sg_160_70  ⟨(xb_rg _), ⟨fun q3359 => ⟨(by decide), (xpost ((((h.2.1 (xb_0 q3367)).2.2 q3364).2.2.2.2.2 (xb_0 q3362)).2.1 (xb_0 q3359)) (funext fun i => (xpt (show (xup (xup (xup (I 101) (8 : Int) nx) (10 : Int) v) (9 : Int) (1 + 8 * at_ + (1 : Int))) = (xup (xup (xup (I 101) (8 : Int) nx) (9 : Int) (1 + 8 * at_ + (1 : Int))) (10 : Int) v) from by funext j; simp only [xup]; (repeat' split) <;> first | rfl | omega) (fun h101_ => (by simp only [xsc_ne _ _ h101_, xwr_ne _ _ _ h101_])))) rfl)⟩, fun q3360 => ⟨(by decide), (xpost ((((h.2.1 (xb_0 q3367)).2.2 q3364).2.2.2.2.2 (xb_0 q3362)).2.2 (xb_n0 q3360)) (funext fun i => (xpt (show (xup (xup (xup (I 101) (8 : Int) nx) (10 : Int) v) (9 : Int) (1 + 8 * at_ + (1 : Int))) = (xup (xup (xup (I 101) (8 : Int) nx) (9 : Int) (1 + 8 * at_ + (1 : Int))) (10 : Int) v) from by funext j; simp only [xup]; (repeat' split) <;> first | rfl | omega) (fun h101_ => (by simp only [xsc_ne _ _ h101_, xwr_ne _ _ _ h101_])))) rfl)⟩⟩⟩))⟩⟩))⟩⟩⟩⟩⟩, fun q3368 => ⟨⟨(h.2.2 (xb_n0 q3368)).1, (by decide)⟩, ⟨fun q3365 => (xR_memc ((h.2.2 (xb_n0 q3368)).2.1 q3365) (funext fun i => (xpt (show (xup (xup (I 101) (8 : Int) nx) (8 : Int) (nx + (1 : Int))) = (xup (I 101) (8 : Int) (nx + (1 : Int))) from by funext j; simp only [xup]; (repeat' split) <;> first | rfl | omega) (fun h101_ => (by simp only [xsc_ne _ _ h101_, xwr_ne _ _ _ h101_])))) rfl), fun q3366 => ⟨((h.2.2 (xb_n0 q3368)).2.2 q3366).1, (xR_memc ((h.2.2 (xb_n0 q3368)).2.2 q3366).2 (funext fun i => (xpt (show (xup (xup (I 101) (8 : Int) nx) (8 : Int) (nx + (1 : Int))) = (xup (I 101) (8 : Int) (nx + (1 : Int))) from by funext j; simp only [xup]; (repeat' split) <;> first | rfl | omega) (fun h101_ => (by simp only [xsc_ne _ _ h101_, xwr_ne _ _ _ h101_])))) rfl)⟩⟩⟩⟩⟩)))
theorem c_160 {I : XI} {L : XL} {D : GD}   {lo : Int} {hi : Int} (h : (TPO (I 102) (I 101 (1 : Int)) ∧ (0 ≤ I 101 (8 : Int) ∧ I 101 (8 : Int) ≤ I 101 (1 : Int)) ∧ I 101 (9 : Int) = 0 ∧ (0 ≤ lo ∧ lo ≤ 1000000) ∧ (-2147483648 ≤ hi ∧ hi ≤ 2147483647))) : xM 1 160 [xr (some 101), xi lo, xi hi] I L (gG D) (0, 0) (xD (some (xi (xb ((nf (I 102) (I 101 (1 : Int)) (sk (I 102) (I 101 (1 : Int)) (I 101 (8 : Int))) lo hi) = 0)))) (xsc I 101 (xup (xup (xup (I 101) (8 : Int) (nxn (I 102) (I 101 (1 : Int)) (sk (I 102) (I 101 (1 : Int)) (I 101 (8 : Int))))) (9 : Int) (nf (I 102) (I 101 (1 : Int)) (sk (I 102) (I 101 (1 : Int)) (I 101 (8 : Int))) lo hi)) (10 : Int) (nmn (I 102) (I 101 (1 : Int)) (sk (I 102) (I 101 (1 : Int)) (I 101 (8 : Int))) (I 101 (10 : Int))))) L (gG D)) := by
  intro d hd
  obtain ⟨hT, h1, h2, h3, h4⟩ := h
  have hT1 := hT.1
  have hs := sk_in (b := I 102) h1.2
  have hS9 : TPO (I 102) (I 101 1) ∧ (0 ≤ I 101 8 ∧ I 101 8 ≤ I 101 1) := ⟨hT, h1⟩
  obtain ⟨q, hq⟩ : ∃ q, sk (I 102) (I 101 1) (I 101 8) = q := ⟨_, rfl⟩
  rw [hq] at hs
  have hl := de_all (b := I 102) (n := I 101 1) (p := q)
  have hl2 := hl.1.2 hs.2
  refine w_160 (by omega) ?_
  simp only [hq]
  refine ⟨hS9, ⟨hT, by omega⟩, fun qd => ?_, fun qd => ?_⟩
  rotate_left
  · refine ⟨h2, ?_⟩
    have e1 : nf (I 102) (I 101 1) q lo hi = 1 + 8 * q + 0 := if_pos qd
    have e2 : nxn (I 102) (I 101 1) q = q := if_neg qd
    have e3 : nmn (I 102) (I 101 1) q (I 101 10) = I 101 10 := if_neg qd
    rw [e1, e2, e3, xb_f (show ¬ (1 + 8 * q + 0 = 0) by omega), xb_f (fun r => r)]
    exact xD_eq rfl (by (funext i; by_cases h101 : i = 101; (subst h101; first | rfl | exact (xcp_zero _ _ _ _).symm | exact (xup_self _ _).symm | exact (xup_self2 _ _ _).symm | exact (xup_self3 _ _ _ _).symm | exact xup_self _ _ | (funext j; simp only [xup]; (repeat' split) <;> first | rfl | (subst_vars; rfl) | omega)); first | rfl | simp only [xsc_ne _ _ h101])) rfl
  · have e2 : nxn (I 102) (I 101 1) q = de_ (I 102) (I 101 1) q := if_pos qd
    have e3 : nmn (I 102) (I 101 1) q (I 101 10) = dvk (I 102) q (de_ (I 102) (I 101 1) q - q).toNat := if_pos qd
    have e1 : nf (I 102) (I 101 1) q lo hi = if lo ≤ tnv (I 102) (I 101 1) q ∧ tnv (I 102) (I 101 1) q ≤ hi then 0 else 1 + 8 * q + 1 := if_neg (fun r => r qd)
    have hv := dvk_rg5 (b := I 102) (n := I 101 1) (q := q) (k := (de_ (I 102) (I 101 1) q - q).toNat) (fun j j0 j1 => hl.2.1 j j0 (by omega))
    rw [e2, e3, e1]
    have key : ∀ k : Nat, k ≤ (de_ (I 102) (I 101 1) q - q).toNat → xR d 160 es_160 19 [xr (some 101), xi lo, xi hi, xi q, xi (dvk (I 102) q k)] [] (xsc I 101 (xup (I 101) (8 : Int) (q + (k : Int)))) L (gG D) 0 0 (xD (some (xi (xb ((if lo ≤ tnv (I 102) (I 101 1) q ∧ tnv (I 102) (I 101 1) q ≤ hi then (0 : Int) else 1 + 8 * q + 1) = 0)))) (xsc I 101 (xup (xup (xup (I 101) (8 : Int) (de_ (I 102) (I 101 1) q)) (9 : Int) (if lo ≤ tnv (I 102) (I 101 1) q ∧ tnv (I 102) (I 101 1) q ≤ hi then 0 else 1 + 8 * q + 1)) (10 : Int) (dvk (I 102) q (de_ (I 102) (I 101 1) q - q).toNat))) L (gG D)) := by
      refine xfor ?_ ?_
      · have eq2 : q + (((de_ (I 102) (I 101 1) q - q).toNat : Nat) : Int) = de_ (I 102) (I 101 1) q := by omega
        have et : tnv (I 102) (I 101 1) q = if 5 < de_ (I 102) (I 101 1) q - q then -1 else dvk (I 102) q (de_ (I 102) (I 101 1) q - q).toNat := rfl
        rw [eq2, et]
        refine b_160 (by omega) ?_
        repeat' first | (with_reducible intro _) | (with_reducible refine And.intro ?_ ?_)
        all_goals first | omega | assumption | skip
        all_goals first
          | (exact absurd (by assumption) hl.2.2)
          | exact ⟨hT, by omega⟩
          | (exact False.elim (by assumption))
          | (have q5 : 5 < de_ (I 102) (I 101 1) q - q := by assumption
             rw [if_pos q5, if_neg (by omega), xb_f (by omega)]
             exact xD_in)
          | (have q5 : ¬ 5 < de_ (I 102) (I 101 1) q - q := by omega
             rw [if_neg q5]
             first
               | (rw [if_pos (by assumption), xb_t rfl]; exact xD_eq rfl (by (funext i; by_cases h101 : i = 101; (subst h101; first | rfl | exact (xcp_zero _ _ _ _).symm | exact (xup_self _ _).symm | exact (xup_self2 _ _ _).symm | exact (xup_self3 _ _ _ _).symm | exact xup_self _ _ | exact xup_9 h2 | exact (xup_9 h2).symm); first | rfl | simp only [xsc_ne _ _ h101])) rfl)
               | (rw [if_neg (by assumption), xb_f (by omega)]; exact xD_in))
      · intro k hk ih 
        have hk1 := hl.2.1 (q + (k : Int)) (by omega) (by omega)
        have hkb := of_decide_eq_true hk1
        have hvk := dvk_rg5 (b := I 102) (n := I 101 1) (q := q) (k := k) (fun j j0 j1 => hl.2.1 j j0 (by omega))
        have e : dvk (I 102) q (k + 1) = if (k : Int) < 5 then 10 * dvk (I 102) q k + I 102 (q + (k : Int)) - 48 else dvk (I 102) q k := rfl
        rw [show q + ((k + 1 : Nat) : Int) = q + (k : Int) + 1 by omega] at ih
        refine b_160 (by omega) ?_
        repeat' first | (with_reducible intro _) | (with_reducible refine And.intro ?_ ?_)
        all_goals first | omega | assumption | skip
        all_goals first
          | exact ⟨hT, by omega⟩
          | (exact absurd hk1 (by assumption))
          | (rw [if_pos (by omega)] at e; rw [e] at ih; exact ih)
          | (rw [if_neg (by omega)] at e; rw [e] at ih; exact ih)
    have k0 := key 0 (Nat.zero_le _)
    rw [show q + ((0 : Nat) : Int) = q by omega] at k0
    exact k0
