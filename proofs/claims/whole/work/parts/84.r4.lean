/-! round: the class -/
def clst (Pc : Int → Int) : Nat → Int
  | 0 => Pc 0
  | j + 1 => if Pc ((j : Int) + 1) < clst Pc j then Pc ((j : Int) + 1) else clst Pc j
theorem clst_eq {a O Pc : Int → Int} (hS : SO a) (h : ∀ g, 0 ≤ g → g < a 4 → Pc g = psm a O g (a 3).toNat) : ∀ j : Nat, (j : Int) < a 4 → clst Pc j = plst a O (j + 1) ∧ 0 ≤ clst Pc j ∧ clst Pc j ≤ 810 := by
  have hn := hS.n
  have hg := hS.g
  intro j
  induction j with
  | zero =>
    intro hj
    have h0 := h 0 (by omega) hj
    have hr := psm_rg (p := O) hS (g := 0) (by omega) (by omega) (a 3).toNat (by omega)
    have e : plst a O (0 + 1) = psm a O 0 (a 3).toNat := by
      have e1 : plst a O (0 + 1) = if plst a O 0 < 0 ∨ psm a O ((0 : Nat) : Int) (a 3).toNat < plst a O 0 then psm a O ((0 : Nat) : Int) (a 3).toNat else plst a O 0 := rfl
      rw [e1, if_pos (Or.inl (show plst a O 0 < 0 from (by decide : (-1 : Int) < 0)))]; rfl
    show Pc 0 = _ ∧ 0 ≤ Pc 0 ∧ Pc 0 ≤ 810
    rw [e, h0]
    omega
  | succ j ih =>
    intro hj
    obtain ⟨i1, i2, i3⟩ := ih (by omega)
    have h0 := h ((j : Int) + 1) (by omega) (by omega)
    have hr := psm_rg (p := O) hS (g := (j : Int) + 1) (by omega) (by omega) (a 3).toNat (by omega)
    have e : plst a O (j + 1 + 1) = if plst a O (j + 1) < 0 ∨ psm a O ((j + 1 : Nat) : Int) (a 3).toNat < plst a O (j + 1) then psm a O ((j + 1 : Nat) : Int) (a 3).toNat else plst a O (j + 1) := rfl
    rw [e, ← i1, show ((j + 1 : Nat) : Int) = (j : Int) + 1 by omega, ← h0]
    have e2 : clst Pc (j + 1) = if Pc ((j : Int) + 1) < clst Pc j then Pc ((j : Int) + 1) else clst Pc j := rfl
    rw [e2]
    by_cases q : Pc ((j : Int) + 1) < clst Pc j
    · rw [if_pos q, if_pos (Or.inr q)]; omega
    · rw [if_neg q, if_neg (show ¬ (clst Pc j < 0 ∨ Pc ((j : Int) + 1) < clst Pc j) by omega)]; omega
theorem RIN_congr {a O O2 Pc : Int → Int} {s used : Int} (h : RIN a O s used Pc) (s0 : 0 ≤ s) (hag : ∀ i, 0 ≤ i → i < s → O2 i = O i) : RIN a O2 s used Pc := by
  obtain ⟨r1, r2, r3, r4⟩ := h
  have h2 : ∀ i, 0 ≤ i → i < ((s.toNat : Nat) : Int) → O2 i = O i := fun i i0 i1 => hag i i0 (by omega)
  refine ⟨fun i i0 i1 => by rw [hag i i0 i1]; exact r1 i i0 i1, by rw [pset_congr _ h2]; exact r2, fun g g0 g1 => by rw [psm_congr _ h2]; exact r3 g g0 g1, fun hi => ?_⟩
  rw [pird_congr h2] at hi
  have := r4 hi
  by_cases q : s = 0
  · subst q; exact absurd (show false = true from hi) (by decide)
  · unfold pum
    rw [hag (s - 1) (by omega) (by omega), hag 0 (by omega) (by omega), pset_congr _ h2]
    exact this
set_option maxRecDepth 8000 in
theorem sg_58_0 {d : Nat} {I : XI} {L : XL} {D : GD} {post : XQ}  {u1 : Int} {u2 : Int} {u3 : Int} (h : ((-2147483648 ≤ u2 ∧ u2 ≤ 2147483647) ∧ ((¬ u2 = 0 → ((0 ≤ (u2 - (1 : Int)) ∧ (u2 - (1 : Int)) < (10 : Int)) ∧ (((-2147483648 ≤ u1 ∧ u1 ≤ 2147483647) ∧ (-2147483648 ≤ (I 93 (u2 - (1 : Int))) ∧ (I 93 (u2 - (1 : Int))) ≤ 2147483647)) ∧ ((¬ u1 = (I 93 (u2 - (1 : Int))) → ((0 ≤ (0 : Int) ∧ (0 : Int) < (10 : Int)) ∧ (((-2147483648 ≤ (I 93 (u2 - (1 : Int))) ∧ (I 93 (u2 - (1 : Int))) ≤ 2147483647) ∧ (-2147483648 ≤ (I 93 (0 : Int)) ∧ (I 93 (0 : Int)) ≤ 2147483647)) ∧ (((I 93 (u2 - (1 : Int))) = (I 93 (0 : Int)) → ((-2147483648 ≤ (xand (xshr u3 u1) (1 : Int)) ∧ (xand (xshr u3 u1) (1 : Int)) ≤ 2147483647) ∧ ((¬ (xand (xshr u3 u1) (1 : Int)) = 0 → ((0 ≤ (0 : Int) ∧ (0 : Int) < (10 : Int)) ∧ (((-2147483648 ≤ u1 ∧ u1 ≤ 2147483647) ∧ (-2147483648 ≤ (I 93 (0 : Int)) ∧ (I 93 (0 : Int)) ≤ 2147483647)) ∧ ((¬ u1 = (I 93 (0 : Int)) → (((0 : Int) = 0 ∨ (0 : Int) = 1) ∧ post (some (xi (0 : Int))) I L (gG D))) ∧ (u1 = (I 93 (0 : Int)) → (((-2147483648 ≤ u3 ∧ u3 ≤ 2147483647) ∧ (-2147483648 ≤ ((xshl (1 : Int) (I 10 (4 : Int))) - (1 : Int)) ∧ ((xshl (1 : Int) (I 10 (4 : Int))) - (1 : Int)) ≤ 2147483647)) ∧ ((¬ u3 = ((xshl (1 : Int) (I 10 (4 : Int))) - (1 : Int)) → (((0 : Int) = 0 ∨ (0 : Int) = 1) ∧ post (some (xi (0 : Int))) I L (gG D))) ∧ (u3 = ((xshl (1 : Int) (I 10 (4 : Int))) - (1 : Int)) → (((1 : Int) = 0 ∨ (1 : Int) = 1) ∧ post (some (xi (1 : Int))) I L (gG D)))))))))) ∧ ((xand (xshr u3 u1) (1 : Int)) = 0 → (((1 : Int) = 0 ∨ (1 : Int) = 1) ∧ post (some (xi (1 : Int))) I L (gG D)))))) ∧ (¬ (I 93 (u2 - (1 : Int))) = (I 93 (0 : Int)) → ((0 ≤ (I 93 (u2 - (1 : Int))) ∧ (I 93 (u2 - (1 : Int))) < (5 : Int)) ∧ (((-2147483648 ≤ (I 95 (I 93 (u2 - (1 : Int)))) ∧ (I 95 (I 93 (u2 - (1 : Int)))) ≤ 2147483647) ∧ (-2147483648 ≤ (I 92 (6 : Int)) ∧ (I 92 (6 : Int)) ≤ 2147483647)) ∧ (((I 92 (6 : Int)) < (I 95 (I 93 (u2 - (1 : Int)))) → ((-2147483648 ≤ (xand (xshr u3 u1) (1 : Int)) ∧ (xand (xshr u3 u1) (1 : Int)) ≤ 2147483647) ∧ ((¬ (xand (xshr u3 u1) (1 : Int)) = 0 → ((0 ≤ (0 : Int) ∧ (0 : Int) < (10 : Int)) ∧ (((-2147483648 ≤ u1 ∧ u1 ≤ 2147483647) ∧ (-2147483648 ≤ (I 93 (0 : Int)) ∧ (I 93 (0 : Int)) ≤ 2147483647)) ∧ ((¬ u1 = (I 93 (0 : Int)) → (((0 : Int) = 0 ∨ (0 : Int) = 1) ∧ post (some (xi (0 : Int))) I L (gG D))) ∧ (u1 = (I 93 (0 : Int)) → (((-2147483648 ≤ u3 ∧ u3 ≤ 2147483647) ∧ (-2147483648 ≤ ((xshl (1 : Int) (I 10 (4 : Int))) - (1 : Int)) ∧ ((xshl (1 : Int) (I 10 (4 : Int))) - (1 : Int)) ≤ 2147483647)) ∧ ((¬ u3 = ((xshl (1 : Int) (I 10 (4 : Int))) - (1 : Int)) → (((0 : Int) = 0 ∨ (0 : Int) = 1) ∧ post (some (xi (0 : Int))) I L (gG D))) ∧ (u3 = ((xshl (1 : Int) (I 10 (4 : Int))) - (1 : Int)) → (((1 : Int) = 0 ∨ (1 : Int) = 1) ∧ post (some (xi (1 : Int))) I L (gG D)))))))))) ∧ ((xand (xshr u3 u1) (1 : Int)) = 0 → (((1 : Int) = 0 ∨ (1 : Int) = 1) ∧ post (some (xi (1 : Int))) I L (gG D)))))) ∧ ((I 95 (I 93 (u2 - (1 : Int)))) ≤ (I 92 (6 : Int)) → (((0 : Int) = 0 ∨ (0 : Int) = 1) ∧ post (some (xi (0 : Int))) I L (gG D))))))))))) ∧ (u1 = (I 93 (u2 - (1 : Int))) → (((1 : Int) = 0 ∨ (1 : Int) = 1) ∧ post (some (xi (1 : Int))) I L (gG D))))))) ∧ (u2 = 0 → (((1 : Int) = 0 ∨ (1 : Int) = 1) ∧ post (some (xi (1 : Int))) I L (gG D)))))) : xR d 58 es_58 0 [xr (some 92), xi u1, xi u2, xi u3, xt 0] [] I L (gG D) 0 0 post := xW_R (fun k => false) 49 _ _ _ _ _ _ _ _ _ _ _ _ h
set_option maxRecDepth 8000 in
theorem w_58 {d : Nat} {I : XI} {L : XL} {D : GD} {post : XQ}   {g : Int} {s : Int} {us : Int} (hd : 0 ≤ d) (h : (((-2147483648 ≤ s ∧ s ≤ 2147483647)) ∧ ((¬ s = 0 → (((0 ≤ (s - (1 : Int)) ∧ (s - (1 : Int)) < (10 : Int))) ∧ (((-2147483648 ≤ g ∧ g ≤ 2147483647) ∧ (-2147483648 ≤ (I 93 (s - (1 : Int))) ∧ (I 93 (s - (1 : Int))) ≤ 2147483647)) ∧ ((¬ g = (I 93 (s - (1 : Int))) → (((-2147483648 ≤ (I 93 (0 : Int)) ∧ (I 93 (0 : Int)) ≤ 2147483647)) ∧ (((I 93 (s - (1 : Int))) = (I 93 (0 : Int)) → (((¬ (xand (xshr us g) (1 : Int)) = 0 → (((¬ g = (I 93 (0 : Int)) → post (some (xi (0 : Int))) I L (gG D)) ∧ (g = (I 93 (0 : Int)) → (((-2147483648 ≤ us ∧ us ≤ 2147483647) ∧ (-2147483648 ≤ ((xshl (1 : Int) (I 10 (4 : Int))) - (1 : Int)) ∧ ((xshl (1 : Int) (I 10 (4 : Int))) - (1 : Int)) ≤ 2147483647)) ∧ ((¬ us = ((xshl (1 : Int) (I 10 (4 : Int))) - (1 : Int)) → post (some (xi (0 : Int))) I L (gG D)) ∧ (us = ((xshl (1 : Int) (I 10 (4 : Int))) - (1 : Int)) → post (some (xi (1 : Int))) I L (gG D)))))))) ∧ ((xand (xshr us g) (1 : Int)) = 0 → post (some (xi (1 : Int))) I L (gG D))))) ∧ (¬ (I 93 (s - (1 : Int))) = (I 93 (0 : Int)) → (((0 ≤ (I 93 (s - (1 : Int))) ∧ (I 93 (s - (1 : Int))) < (5 : Int))) ∧ (((-2147483648 ≤ (I 95 (I 93 (s - (1 : Int)))) ∧ (I 95 (I 93 (s - (1 : Int)))) ≤ 2147483647) ∧ (-2147483648 ≤ (I 92 (6 : Int)) ∧ (I 92 (6 : Int)) ≤ 2147483647)) ∧ (((I 92 (6 : Int)) < (I 95 (I 93 (s - (1 : Int)))) → (((¬ (xand (xshr us g) (1 : Int)) = 0 → (((¬ g = (I 93 (0 : Int)) → post (some (xi (0 : Int))) I L (gG D)) ∧ (g = (I 93 (0 : Int)) → (((-2147483648 ≤ us ∧ us ≤ 2147483647) ∧ (-2147483648 ≤ ((xshl (1 : Int) (I 10 (4 : Int))) - (1 : Int)) ∧ ((xshl (1 : Int) (I 10 (4 : Int))) - (1 : Int)) ≤ 2147483647)) ∧ ((¬ us = ((xshl (1 : Int) (I 10 (4 : Int))) - (1 : Int)) → post (some (xi (0 : Int))) I L (gG D)) ∧ (us = ((xshl (1 : Int) (I 10 (4 : Int))) - (1 : Int)) → post (some (xi (1 : Int))) I L (gG D)))))))) ∧ ((xand (xshr us g) (1 : Int)) = 0 → post (some (xi (1 : Int))) I L (gG D))))) ∧ ((I 95 (I 93 (s - (1 : Int)))) ≤ (I 92 (6 : Int)) → post (some (xi (0 : Int))) I L (gG D))))))))) ∧ (g = (I 93 (s - (1 : Int))) → post (some (xi (1 : Int))) I L (gG D)))))) ∧ (s = 0 → post (some (xi (1 : Int))) I L (gG D))))) : xR d 58 es_58 0 [xr (some 92), xi g, xi s, xi us, xt 0] [] I L (gG D) 0 0 post := sg_58_0  (⟨h.1, ⟨fun q3154 => ⟨(h.2.1 q3154).1, ⟨⟨(h.2.1 q3154).2.1.1, (h.2.1 q3154).2.1.2⟩, ⟨fun q3152 => ⟨(by decide), ⟨⟨(h.2.1 q3154).2.1.2, ((h.2.1 q3154).2.2.1 q3152).1⟩, ⟨fun q3150 => ⟨(xt_rg _), ⟨fun q3140 => ⟨(by decide), ⟨⟨(h.2.1 q3154).2.1.1, ((h.2.1 q3154).2.2.1 q3152).1⟩, ⟨fun q3138 => ⟨(by decide), (((((h.2.1 q3154).2.2.1 q3152).2.1 q3150).1 q3140).1 q3138)⟩, fun q3139 => ⟨⟨(((((h.2.1 q3154).2.2.1 q3152).2.1 q3150).1 q3140).2 q3139).1.1, (((((h.2.1 q3154).2.2.1 q3152).2.1 q3150).1 q3140).2 q3139).1.2⟩, ⟨fun q3136 => ⟨(by decide), ((((((h.2.1 q3154).2.2.1 q3152).2.1 q3150).1 q3140).2 q3139).2.1 q3136)⟩, fun q3137 => ⟨(by decide), ((((((h.2.1 q3154).2.2.1 q3152).2.1 q3150).1 q3140).2 q3139).2.2 q3137)⟩⟩⟩⟩⟩⟩, fun q3141 => ⟨(by decide), ((((h.2.1 q3154).2.2.1 q3152).2.1 q3150).2 q3141)⟩⟩⟩, fun q3151 => ⟨(((h.2.1 q3154).2.2.1 q3152).2.2 q3151).1, ⟨⟨(((h.2.1 q3154).2.2.1 q3152).2.2 q3151).2.1.1, (((h.2.1 q3154).2.2.1 q3152).2.2 q3151).2.1.2⟩, ⟨fun q3148 => ⟨(xt_rg _), ⟨fun q3146 => ⟨(by decide), ⟨⟨(h.2.1 q3154).2.1.1, ((h.2.1 q3154).2.2.1 q3152).1⟩, ⟨fun q3144 => ⟨(by decide), ((((((h.2.1 q3154).2.2.1 q3152).2.2 q3151).2.2.1 q3148).1 q3146).1 q3144)⟩, fun q3145 => ⟨⟨((((((h.2.1 q3154).2.2.1 q3152).2.2 q3151).2.2.1 q3148).1 q3146).2 q3145).1.1, ((((((h.2.1 q3154).2.2.1 q3152).2.2 q3151).2.2.1 q3148).1 q3146).2 q3145).1.2⟩, ⟨fun q3142 => ⟨(by decide), (((((((h.2.1 q3154).2.2.1 q3152).2.2 q3151).2.2.1 q3148).1 q3146).2 q3145).2.1 q3142)⟩, fun q3143 => ⟨(by decide), (((((((h.2.1 q3154).2.2.1 q3152).2.2 q3151).2.2.1 q3148).1 q3146).2 q3145).2.2 q3143)⟩⟩⟩⟩⟩⟩, fun q3147 => ⟨(by decide), (((((h.2.1 q3154).2.2.1 q3152).2.2 q3151).2.2.1 q3148).2 q3147)⟩⟩⟩, fun q3149 => ⟨(by decide), ((((h.2.1 q3154).2.2.1 q3152).2.2 q3151).2.2.2 q3149)⟩⟩⟩⟩⟩⟩⟩, fun q3153 => ⟨(by decide), ((h.2.1 q3154).2.2.2 q3153)⟩⟩⟩⟩, fun q3155 => ⟨(by decide), (h.2.2 q3155)⟩⟩⟩)
theorem c_58 {I : XI} {L : XL} {D : GD}   {g : Int} {s : Int} {us : Int} (h : ((0 ≤ I 10 (4 : Int) ∧ I 10 (4 : Int) ≤ 5) ∧ (0 ≤ g ∧ g < 5) ∧ (0 ≤ s ∧ s < 10) ∧ (∀ i, 0 ≤ i → i < s → 0 ≤ (I 93) i ∧ (I 93) i < I 10 (4 : Int)) ∧ (∀ x, 0 ≤ x → x < I 10 (4 : Int) → -2147483648 ≤ (I 95) x ∧ (I 95) x ≤ 2147483647) ∧ (-2147483648 ≤ (I 92 (6 : Int)) ∧ (I 92 (6 : Int)) ≤ 2147483647) ∧ (-2147483648 ≤ us ∧ us ≤ 2147483647))) : xM 0 58 [xr (some 92), xi g, xi s, xi us] I L (gG D) (0, 0) (xD (some (xi (xb (cmay (I 10 (4 : Int)) (I 92 (6 : Int)) (I 93) (I 95) g s us = true)))) I L (gG D)) := by
  intro d hd
  obtain ⟨hg, h1, h2, h3, h4, h5, h6⟩ := h
  have hs1 : ¬ s = 0 → (0 ≤ I 93 (s - 1) ∧ I 93 (s - 1) < I 10 4) ∧ (0 ≤ I 93 0 ∧ I 93 0 < I 10 4) := fun q => ⟨h3 (s - 1) (by omega) (by omega), h3 0 (by omega) (by omega)⟩
  have hs2 : ¬ s = 0 → -2147483648 ≤ I 95 (I 93 (s - 1)) ∧ I 95 (I 93 (s - 1)) ≤ 2147483647 := fun q => h4 _ (hs1 q).1.1 (hs1 q).1.2
  have hsh : -2147483648 ≤ xshl 1 (I 10 4) - 1 ∧ xshl 1 (I 10 4) - 1 ≤ 2147483647 := by
    have e := xshl_n (j := (I 10 4).toNat) (by omega)
    rw [Int.toNat_of_nonneg hg.1] at e
    have h5 : 2 ^ (I 10 4).toNat ≤ 2 ^ 5 := Nat.pow_le_pow_right (by decide) (by omega)
    generalize 2 ^ (I 10 4).toNat = X at e h5
    rw [e]
    omega
  have ep : (cmay (I 10 4) (I 92 6) (I 93) (I 95) g s us = true) = (s = 0 ∨ g = I 93 (s - 1) ∨ (¬ (¬ I 93 (s - 1) = I 93 0 ∧ I 95 (I 93 (s - 1)) ≤ I 92 6) ∧ (xand (xshr us g) 1 = 0 ∨ (g = I 93 0 ∧ us = xshl 1 (I 10 4) - 1)))) := by unfold cmay; exact decide_eq_true_eq
  simp only [ep]
  have hx := xand1 (xshr us g)
  refine w_58 (by omega) ?_
  by_cases q : s = 0
  · rw [xb_t (Or.inl q)]
    repeat' first | (with_reducible intro _) | (with_reducible refine And.intro ?_ ?_)
    all_goals first | omega | exact xD_in | (exact absurd q (by assumption))
  · have a1 := hs1 q
    have a2 := hs2 q
    repeat' first | (with_reducible intro _) | (with_reducible refine And.intro ?_ ?_)
    all_goals first | omega | skip
    all_goals first
      | (rw [xb_t (by first | exact Or.inr (Or.inl (by assumption)) | (refine Or.inr (Or.inr ⟨?_, ?_⟩) <;> omega))]; exact xD_in)
      | (rw [xb_f (by omega)]; exact xD_in)
set_option maxRecDepth 8000 in
theorem sg_59_0 {d : Nat} {I : XI} {L : XL} {D : GD} {post : XQ}   (h : ((0 ≤ (0 : Int) ∧ (0 : Int) < (5 : Int)) ∧ xR d 59 es_59 7 [xr (some 92), xi (I 95 (0 : Int)), xi (1 : Int)] [] I L (gG D) 0 0 post)) : xR d 59 es_59 0 [xr (some 92), xt 0, xt 0] [] I L (gG D) 0 0 post := xW_R (fun k => Nat.beq k 7) 7 _ _ _ _ _ _ _ _ _ _ _ _ h
set_option maxRecDepth 8000 in
theorem w_59 {d : Nat} {I : XI} {L : XL} {D : GD} {post : XQ}    (hd : 0 ≤ d) (h : xR d 59 es_59 7 [xr (some 92), xi (I 95 (0 : Int)), xi (1 : Int)] [] I L (gG D) 0 0 post) : xR d 59 es_59 0 [xr (some 92), xt 0, xt 0] [] I L (gG D) 0 0 post := sg_59_0  (⟨(by decide), h⟩)
set_option maxRecDepth 8000 in
theorem sg_59_7 {d : Nat} {I : XI} {L : XL} {D : GD} {post : XQ}  {u1 : Int} {u2 : Int} (h : (((-2147483648 ≤ u2 ∧ u2 ≤ 2147483647) ∧ (-2147483648 ≤ (I 10 (4 : Int)) ∧ (I 10 (4 : Int)) ≤ 2147483647)) ∧ (((I 10 (4 : Int)) ≤ u2 → (((-2147483648 ≤ u1 ∧ u1 ≤ 2147483647) ∧ (-2147483648 ≤ (I 92 (6 : Int)) ∧ (I 92 (6 : Int)) ≤ 2147483647)) ∧ ((u1 ≤ (I 92 (6 : Int)) → post none I L (gG D)) ∧ ((I 92 (6 : Int)) < u1 → ((0 ≤ (0 : Int) ∧ 0 ≤ (0 : Int) ∧ 0 ≤ (10 : Int) ∧ (0 : Int) + (10 : Int) ≤ (10 : Int) ∧ (0 : Int) + (10 : Int) ≤ (10 : Int) ∧ 1 ≤ d ∧ 0 ≤ 8) ∧ post none (xsc (xwr I 92 (6 : Int) u1) 94 (xcp (I 93) (I 94) (0 : Int) (0 : Int) (10 : Int))) L (gG D)))))) ∧ (u2 < (I 10 (4 : Int)) → ((0 ≤ u2 ∧ u2 < (5 : Int)) ∧ (((-2147483648 ≤ u1 ∧ u1 ≤ 2147483647) ∧ (-2147483648 ≤ (I 95 u2) ∧ (I 95 u2) ≤ 2147483647) ∧ 1 ≤ d ∧ 0 ≤ 8) ∧ xR d 59 es_59 7 [xr (some 92), xi (if (I 95 u2) < u1 then (I 95 u2) else u1), xi (u2 + (1 : Int))] [] I L (gG D) 0 0 post)))))) : xR d 59 es_59 7 [xr (some 92), xi u1, xi u2] [] I L (gG D) 0 0 post := xW_R (fun k => Nat.beq k 7) 21 _ _ _ _ _ _ _ _ _ _ _ _ h
set_option maxRecDepth 8000 in
theorem b_59 {d : Nat} {I : XI} {L : XL} {D : GD} {post : XQ}   {le : Int} {gq : Int} (hd : 1 ≤ d) (h : (((-2147483648 ≤ gq ∧ gq ≤ 2147483647) ∧ (-2147483648 ≤ (I 10 (4 : Int)) ∧ (I 10 (4 : Int)) ≤ 2147483647)) ∧ (((I 10 (4 : Int)) ≤ gq → (((-2147483648 ≤ le ∧ le ≤ 2147483647) ∧ (-2147483648 ≤ (I 92 (6 : Int)) ∧ (I 92 (6 : Int)) ≤ 2147483647)) ∧ ((le ≤ (I 92 (6 : Int)) → post none I L (gG D)) ∧ ((I 92 (6 : Int)) < le → post none (xsc (xsc I 92 (xup (I 92) (6 : Int) le)) 94 (xcp (I 93) (I 94) (0 : Int) (0 : Int) (10 : Int))) L (gG D))))) ∧ (gq < (I 10 (4 : Int)) → (((0 ≤ gq ∧ gq < (5 : Int))) ∧ (((-2147483648 ≤ le ∧ le ≤ 2147483647) ∧ (-2147483648 ≤ (I 95 gq) ∧ (I 95 gq) ≤ 2147483647)) ∧ xR d 59 es_59 7 [xr (some 92), xi (if (I 95 gq) < le then (I 95 gq) else le), xi (gq + (1 : Int))] [] I L (gG D) 0 0 post)))))) : xR d 59 es_59 7 [xr (some 92), xi le, xi gq] [] I L (gG D) 0 0 post := sg_59_7  (⟨⟨h.1.1, h.1.2⟩, ⟨fun q3158 => ⟨⟨(h.2.1 q3158).1.1, (h.2.1 q3158).1.2⟩, ⟨fun q3156 => ((h.2.1 q3158).2.1 q3156), fun q3157 => ⟨⟨(by decide), (by decide), (by decide), (by decide), (by decide), (by omega), (by decide)⟩, ((h.2.1 q3158).2.2 q3157)⟩⟩⟩, fun q3159 => ⟨(h.2.2 q3159).1, ⟨⟨(h.2.2 q3159).2.1.1, (h.2.2 q3159).2.1.2, (by omega), (by decide)⟩, (h.2.2 q3159).2.2⟩⟩⟩⟩)
theorem c_59 {I : XI} {L : XL} {D : GD}    (h : ((1 ≤ I 10 (4 : Int) ∧ I 10 (4 : Int) ≤ 5) ∧ (-2147483648 ≤ (I 92 (6 : Int)) ∧ (I 92 (6 : Int)) ≤ 2147483647) ∧ (∀ j : Nat, (j : Int) < I 10 (4 : Int) → (-2147483648 ≤ clst (I 95) j ∧ clst (I 95) j ≤ 2147483647) ∧ (-2147483648 ≤ (I 95) (j : Int) ∧ (I 95) (j : Int) ≤ 2147483647)))) : xM 1 59 [xr (some 92)] I L (gG D) (0, 0) (xD none (xsc (xsc I 92 (xup (I 92) (6 : Int) (if I 92 (6 : Int) < (clst (I 95) ((I 10 (4 : Int)).toNat - 1)) then (clst (I 95) ((I 10 (4 : Int)).toNat - 1)) else I 92 (6 : Int)))) 94 (if I 92 (6 : Int) < (clst (I 95) ((I 10 (4 : Int)).toNat - 1)) then xcp (I 93) (I 94) 0 0 10 else (I 94))) L (gG D)) := by
  intro d hd
  obtain ⟨hg, h1, h2⟩ := h
  refine w_59 (by omega) ?_
  have key : ∀ k : Nat, k ≤ ((I 10 4).toNat - 1) → xR d 59 es_59 7 [xr (some 92), xi (clst (I 95) k), xi ((k : Int) + 1)] [] I L (gG D) 0 0 (xD none (xsc (xsc I 92 (xup (I 92) (6 : Int) (if I 92 (6 : Int) < (clst (I 95) ((I 10 (4 : Int)).toNat - 1)) then (clst (I 95) ((I 10 (4 : Int)).toNat - 1)) else I 92 (6 : Int)))) 94 (if I 92 (6 : Int) < (clst (I 95) ((I 10 (4 : Int)).toNat - 1)) then xcp (I 93) (I 94) 0 0 10 else (I 94))) L (gG D)) := by
    refine xfor ?_ ?_
    · have hr := (h2 ((I 10 4).toNat - 1) (by omega)).1
      refine b_59 (by omega) ?_
      repeat' first | (with_reducible intro _) | (with_reducible refine And.intro ?_ ?_)
      all_goals first | omega | assumption | skip
      all_goals first
        | (rw [if_pos (by assumption), if_pos (by assumption)]; exact xD_eq rfl (by (funext i; by_cases h92 : i = 92; (subst h92; first | rfl | exact (xcp_zero _ _ _ _).symm | exact (xup_self _ _).symm | exact (xup_self2 _ _ _).symm | exact (xup_self3 _ _ _ _).symm | exact xup_self _ _); by_cases h94 : i = 94; (subst h94; first | rfl | exact (xcp_zero _ _ _ _).symm | exact (xup_self _ _).symm | exact (xup_self2 _ _ _).symm | exact (xup_self3 _ _ _ _).symm | exact xup_self _ _); first | rfl | simp only [xsc_ne _ _ h92, xsc_ne _ _ h94])) rfl)
        | (rw [if_neg (by omega), if_neg (by omega)]; exact xD_eq rfl (by (funext i; by_cases h92 : i = 92; (subst h92; first | rfl | exact (xcp_zero _ _ _ _).symm | exact (xup_self _ _).symm | exact (xup_self2 _ _ _).symm | exact (xup_self3 _ _ _ _).symm | exact xup_self _ _); by_cases h94 : i = 94; (subst h94; first | rfl | exact (xcp_zero _ _ _ _).symm | exact (xup_self _ _).symm | exact (xup_self2 _ _ _).symm | exact (xup_self3 _ _ _ _).symm | exact xup_self _ _); first | rfl | simp only [xsc_ne _ _ h92, xsc_ne _ _ h94])) rfl)
    · intro k hk ih 
      have hr := (h2 k (by omega)).1
      have hr2 := (h2 (k + 1) (by omega)).2
      rw [show ((k + 1 : Nat) : Int) = (k : Int) + 1 by omega] at hr2 ih
      have e : clst (I 95) (k + 1) = if I 95 ((k : Int) + 1) < clst (I 95) k then I 95 ((k : Int) + 1) else clst (I 95) k := rfl
      rw [e] at ih
      refine b_59 (by omega) ?_
      repeat' first | (with_reducible intro _) | (with_reducible refine And.intro ?_ ?_)
      all_goals first | omega | assumption | skip
      all_goals first | exact ih | (rw [if_pos (by assumption)] at ih; exact ih) | (rw [if_neg (by omega)] at ih; exact ih)
  exact key 0 (Nat.zero_le _)
