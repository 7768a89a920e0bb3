theorem pany_congr {F F2 : Nat → Bool} : ∀ (r i : Nat), (∀ j, i ≤ j → j < i + r → F j = F2 j) → pany F r i = pany F2 r i := by
  intro r
  induction r with
  | zero => intro i _; rfl
  | succ r ih =>
    intro i h
    unfold pany
    rw [h i (by omega) (by omega), ih (i + 1) (fun j j0 j1 => h j (by omega) (by omega))]
theorem pus_congr {p q : Int → Int} {k : Nat} {g : Int} (h : ∀ i, 0 ≤ i → i < (k : Int) → p i = q i) : pus p g k = pus q g k := by
  unfold pus
  refine pany_congr _ _ (fun j j0 j1 => ?_)
  rw [h (j : Int) (by omega) (by omega)]
theorem pset_congr {p q : Int → Int} : ∀ k : Nat, (∀ i, 0 ≤ i → i < (k : Int) → p i = q i) → pset p k = pset q k := by
  intro k
  induction k with
  | zero => intro _; rfl
  | succ k ih =>
    intro h
    unfold pset
    rw [ih (fun i i0 i1 => h i i0 (by omega)), h (k : Int) (by omega) (by omega)]
theorem pird_congr {p q : Int → Int} {k : Nat} (h : ∀ i, 0 ≤ i → i < (k : Int) → p i = q i) : pird p k = pird q k := by
  unfold pird
  by_cases hk : k ≤ 1
  · rw [show k - 1 = 0 by omega]; rfl
  · refine pany_congr _ _ (fun j j0 j1 => ?_)
    rw [h (j : Int) (by omega) (by omega), h 0 (by omega) (by omega), h ((j : Int) - 1) (by omega) (by omega)]
theorem pcan_congr {G4 : Int} {p q : Int → Int} {k : Int} (k0 : 0 ≤ k) (h : ∀ i, 0 ≤ i → i ≤ k → p i = q i) : pcan G4 p k = pcan G4 q k := by
  unfold pcan
  by_cases hk : k = 0
  · have e : ∀ X : Prop, ((k = 0 ∨ X) ↔ True) := fun X => ⟨fun _ => True.intro, fun _ => Or.inl hk⟩
    rw [decide_eq_decide, e, e]
  · have h2 : ∀ i, 0 ≤ i → i < (k.toNat : Int) → p i = q i := fun i i0 i1 => h i i0 (by omega)
    unfold pum
    rw [h k k0 (Int.le_refl _), h (k - 1) (by omega) (by omega), h 0 (by omega) k0, pird_congr h2, pus_congr h2, pset_congr _ h2]
theorem psm_congr {a p q : Int → Int} {g : Int} : ∀ n : Nat, (∀ i, 0 ≤ i → i < (n : Int) → p i = q i) → psm a p g n = psm a q g n := by
  intro n
  induction n with
  | zero => intro _; rfl
  | succ n ih =>
    intro h
    unfold psm
    rw [ih (fun i i0 i1 => h i i0 (by omega)), h (n : Int) (by omega) (by omega)]
theorem plst_congr {a p q : Int → Int} (h : ∀ i, 0 ≤ i → i < ((a 3).toNat : Int) → p i = q i) : ∀ g : Nat, plst a p g = plst a q g := by
  intro g
  induction g with
  | zero => rfl
  | succ g ih =>
    unfold plst
    rw [ih, psm_congr _ h]
theorem xcp_congr0 {f g d : Int → Int} {n : Int} (h : ∀ i, 0 ≤ i → i < n → f i = g i) : xcp f d 0 0 n = xcp g d 0 0 n := by
  funext j
  by_cases q : 0 ≤ j ∧ j < n
  · rw [xcp0 q.1 q.2, xcp0 q.1 q.2]; exact h j q.1 q.2
  · rw [xcp_out (by omega), xcp_out (by omega)]
theorem rcf_p {a : Int → Int} (h3 : 0 ≤ a 3) : ∀ (K : Nat), (K : Int) ≤ a 3 → ∀ (p q : Int → Int) (st : Int × (Int → Int)), (∀ i, 0 ≤ i → i < a 3 - (K : Int) → p i = q i) → rcf a K p st = rcf a K q st := by
  intro K
  induction K with
  | zero =>
    intro _ p q st h
    have h1 : ∀ i, 0 ≤ i → i < ((a 3).toNat : Int) → p i = q i := fun i i0 i1 => h i i0 (by omega)
    unfold rcf pum rkp
    rw [pset_congr _ h1, plst_congr h1, xcp_congr0 (fun i i0 i1 => h i i0 (by omega))]
  | succ K ih =>
    intro hK p q st h
    unfold rcf
    refine nfold_congr _ _ (fun g _ s => ?_)
    have e : ∀ i, 0 ≤ i → i ≤ a 3 - (K : Int) - 1 → xup p (a 3 - (K : Int) - 1) (g : Int) i = xup q (a 3 - (K : Int) - 1) (g : Int) i := by
      intro i i0 i1
      by_cases qi : i = a 3 - (K : Int) - 1
      · rw [qi, xup_same, xup_same]
      · rw [xup_ne _ _ qi, xup_ne _ _ qi]; exact h i i0 (by omega)
    rw [pcan_congr (by omega) e, ih (by omega) (xup p (a 3 - (K : Int) - 1) (g : Int)) (xup q (a 3 - (K : Int) - 1) (g : Int)) s (fun i i0 i1 => e i i0 (by omega))]
theorem rkp_rg {a p : Int → Int} (h : SO a) {st : Int × (Int → Int)} (hr : -1 ≤ st.1 ∧ st.1 ≤ 810) : (-1 ≤ (rkp a p st).1 ∧ (rkp a p st).1 ≤ 810) ∧ st.1 ≤ (rkp a p st).1 := by
  have hg := h.g
  have := plst_rg (p := p) h (a 4).toNat (by omega)
  unfold rkp
  split
  · exact ⟨hr, Int.le_refl _⟩
  · refine ⟨⟨this.1, this.2.1⟩, ?_⟩
    show st.1 ≤ plst a p (a 4).toNat
    omega
theorem rcf_rg {a : Int → Int} (h : SO a) : ∀ (K : Nat) (p : Int → Int) (st : Int × (Int → Int)), (-1 ≤ st.1 ∧ st.1 ≤ 810) → (-1 ≤ (rcf a K p st).1 ∧ (rcf a K p st).1 ≤ 810) ∧ st.1 ≤ (rcf a K p st).1 := by
  intro K
  induction K with
  | zero =>
    intro p st hr
    unfold rcf
    split
    · exact rkp_rg h hr
    · exact ⟨hr, Int.le_refl _⟩
  | succ K ih =>
    intro p st hr
    unfold rcf
    have key : ∀ g : Nat, (-1 ≤ (nfold (fun g st => if pcan (a 4) (xup p (a 3 - (K : Int) - 1) (g : Int)) (a 3 - (K : Int) - 1) = true then rcf a K (xup p (a 3 - (K : Int) - 1) (g : Int)) st else st) g st).1 ∧ (nfold (fun g st => if pcan (a 4) (xup p (a 3 - (K : Int) - 1) (g : Int)) (a 3 - (K : Int) - 1) = true then rcf a K (xup p (a 3 - (K : Int) - 1) (g : Int)) st else st) g st).1 ≤ 810) ∧ st.1 ≤ (nfold (fun g st => if pcan (a 4) (xup p (a 3 - (K : Int) - 1) (g : Int)) (a 3 - (K : Int) - 1) = true then rcf a K (xup p (a 3 - (K : Int) - 1) (g : Int)) st else st) g st).1 := by
      intro g
      induction g with
      | zero => exact ⟨hr, Int.le_refl _⟩
      | succ g ihg =>
        generalize hT : nfold (fun g st => if pcan (a 4) (xup p (a 3 - (K : Int) - 1) (g : Int)) (a 3 - (K : Int) - 1) = true then rcf a K (xup p (a 3 - (K : Int) - 1) (g : Int)) st else st) g st = T at ihg
        have ef : nfold (fun g st => if pcan (a 4) (xup p (a 3 - (K : Int) - 1) (g : Int)) (a 3 - (K : Int) - 1) = true then rcf a K (xup p (a 3 - (K : Int) - 1) (g : Int)) st else st) (g + 1) st = if pcan (a 4) (xup p (a 3 - (K : Int) - 1) (g : Int)) (a 3 - (K : Int) - 1) = true then rcf a K (xup p (a 3 - (K : Int) - 1) (g : Int)) T else T := by rw [← hT]; rfl
        rw [ef]
        split
        · have := ih (xup p (a 3 - (K : Int) - 1) (g : Int)) T ihg.1
          exact ⟨this.1, Int.le_trans ihg.2 this.2⟩
        · exact ihg
    exact key _
set_option maxRecDepth 8000 in
theorem sg_234_0 {d : Nat} {I : XI} {L : XL} {D : GD} {post : XQ}   (h : ((0 ≤ (0 : Int) ∧ (0 : Int) < (11 : Int)) ∧ xR d 234 es_234 10 [xr (some 101), xi (0 : Int)] [] (xwr (xwr I 101 (29 : Int) (-1 : Int)) 114 (0 : Int) (-1 : Int)) L (gG D) 0 0 post)) : xR d 234 es_234 0 [xr (some 101), xt 0] [] I L (gG D) 0 0 post := xW_R (fun k => Nat.beq k 10 || Nat.beq k 20 || Nat.beq k 27 || Nat.beq k 51) 10 _ _ _ _ _ _ _ _ _ _ _ _ h
set_option maxRecDepth 8000 in
theorem w_234 {d : Nat} {I : XI} {L : XL} {D : GD} {post : XQ}    (hd : 0 ≤ d) (h : xR d 234 es_234 10 [xr (some 101), xi (0 : Int)] [] (xsc (xsc I 101 (xup (I 101) (29 : Int) (-1 : Int))) 114 (xup (I 114) (0 : Int) (-1 : Int))) L (gG D) 0 0 post) : xR d 234 es_234 0 [xr (some 101), xt 0] [] I L (gG D) 0 0 post := sg_234_0  (⟨(by decide), h⟩)
set_option maxRecDepth 8000 in
theorem sg_234_10 {d : Nat} {I : XI} {L : XL} {D : GD} {post : XQ}  {u1 : Int} (h : ((-2147483648 ≤ u1 ∧ u1 ≤ 2147483647) ∧ ((u1 < 0 → post none I L (gG D)) ∧ (0 ≤ u1 → ((0 ≤ (3 : Int) ∧ (3 : Int) < (102 : Int)) ∧ (((-2147483648 ≤ u1 ∧ u1 ≤ 2147483647) ∧ (-2147483648 ≤ (I 111 (3 : Int)) ∧ (I 111 (3 : Int)) ≤ 2147483647)) ∧ ((¬ u1 = (I 111 (3 : Int)) → ((0 ≤ u1 ∧ u1 < (11 : Int)) ∧ ((0 ≤ u1 ∧ u1 < (11 : Int)) ∧ ((0 ≤ u1 ∧ u1 < (11 : Int)) ∧ ((0 ≤ (4 : Int) ∧ (4 : Int) < (102 : Int)) ∧ (((-2147483648 ≤ (xup (I 114) u1 ((I 114 u1) + (1 : Int)) u1) ∧ (xup (I 114) u1 ((I 114 u1) + (1 : Int)) u1) ≤ 2147483647) ∧ (-2147483648 ≤ (I 111 (4 : Int)) ∧ (I 111 (4 : Int)) ≤ 2147483647)) ∧ (((xup (I 114) u1 ((I 114 u1) + (1 : Int)) u1) < (I 111 (4 : Int)) → xR d 234 es_234 51 [xr (some 101), xi u1] [xi u1, xr (some 101)] (xwr I 114 u1 ((I 114 u1) + (1 : Int))) L (gG D) 0 0 post) ∧ ((I 111 (4 : Int)) ≤ (xup (I 114) u1 ((I 114 u1) + (1 : Int)) u1) → xR d 234 es_234 10 [xr (some 101), xi (u1 + (-1 : Int))] [] (xwr I 114 u1 ((I 114 u1) + (1 : Int))) L (gG D) 0 0 post)))))))) ∧ (u1 = (I 111 (3 : Int)) → xR d 234 es_234 20 [xr (some 101), xi u1] [xi u1, xr (some 101)] I L (gG D) 0 0 post)))))))) : xR d 234 es_234 10 [xr (some 101), xi u1] [] I L (gG D) 0 0 post := xW_R (fun k => Nat.beq k 10 || Nat.beq k 20 || Nat.beq k 27 || Nat.beq k 51) 27 _ _ _ _ _ _ _ _ _ _ _ _ h
set_option maxRecDepth 8000 in
theorem sg_234_52 {d : Nat} {I : XI} {L : XL} {D : GD} {post : XQ}  {u1 : Int} {w0 : Int} (h : ((-2147483648 ≤ w0 ∧ w0 ≤ 2147483647) ∧ ((w0 = 0 → xR d 234 es_234 10 [xr (some 101), xi u1] [] I L (gG D) 0 0 post) ∧ (¬ w0 = 0 → ((0 ≤ (u1 + (1 : Int)) ∧ (u1 + (1 : Int)) < (11 : Int)) ∧ xR d 234 es_234 10 [xr (some 101), xi (u1 + (1 : Int))] [] (xwr I 114 (u1 + (1 : Int)) (-1 : Int)) L (gG D) 0 0 post))))) : xR d 234 es_234 52 [xr (some 101), xi u1] [xi w0] I L (gG D) 0 0 post := xW_R (fun k => Nat.beq k 10 || Nat.beq k 20 || Nat.beq k 27 || Nat.beq k 51) 8 _ _ _ _ _ _ _ _ _ _ _ _ h
set_option maxRecDepth 8000 in
theorem sg_234_21 {d : Nat} {I : XI} {L : XL} {D : GD} {post : XQ}  {u1 : Int} {w0 : Int} (h : ((0 ≤ (4 : Int) ∧ (4 : Int) < (102 : Int)) ∧ (((-2147483648 ≤ w0 ∧ w0 ≤ 2147483647) ∧ (-2147483648 ≤ (I 111 (4 : Int)) ∧ (I 111 (4 : Int)) ≤ 2147483647)) ∧ ((¬ w0 = (I 111 (4 : Int)) → xR d 234 es_234 10 [xr (some 101), xi (u1 + (-1 : Int))] [] I L (gG D) 0 0 post) ∧ (w0 = (I 111 (4 : Int)) → xR d 234 es_234 27 [xr (some 101), xi u1] [xr (some 101)] I L (gG D) 0 0 post))))) : xR d 234 es_234 21 [xr (some 101), xi u1] [xi w0] I L (gG D) 0 0 post := xW_R (fun k => Nat.beq k 10 || Nat.beq k 20 || Nat.beq k 27 || Nat.beq k 51) 7 _ _ _ _ _ _ _ _ _ _ _ _ h
set_option maxRecDepth 8000 in
theorem sg_234_28 {d : Nat} {I : XI} {L : XL} {D : GD} {post : XQ}  {u1 : Int} (h : xR d 234 es_234 10 [xr (some 101), xi (u1 + (-1 : Int))] [] I L (gG D) 0 0 post) : xR d 234 es_234 28 [xr (some 101), xi u1] [] I L (gG D) 0 0 post := xW_R (fun k => Nat.beq k 10 || Nat.beq k 20 || Nat.beq k 27 || Nat.beq k 51) 2 _ _ _ _ _ _ _ _ _ _ _ _ h
set_option maxRecDepth 8000 in
theorem b_234 {d : Nat} {I : XI} {L : XL} {D : GD} {post : XQ} {cl : Int} {P B : Int → Int}  {kq : Int} (hd : 3 ≤ d) (h : (((-2147483648 ≤ kq ∧ kq ≤ 2147483647)) ∧ ((kq < 0 → post none (xsc (xsc (xsc I 101 (xup (I 101) (29 : Int) cl)) 114 P) 115 B) L (gG D)) ∧ (0 ≤ kq → (((-2147483648 ≤ (I 111 (3 : Int)) ∧ (I 111 (3 : Int)) ≤ 2147483647)) ∧ ((¬ kq = (I 111 (3 : Int)) → (((0 ≤ kq ∧ kq < (11 : Int))) ∧ (((-2147483648 ≤ (xup P kq ((P kq) + (1 : Int)) kq) ∧ (xup P kq ((P kq) + (1 : Int)) kq) ≤ 2147483647) ∧ (-2147483648 ≤ (I 111 (4 : Int)) ∧ (I 111 (4 : Int)) ≤ 2147483647)) ∧ (((xup P kq ((P kq) + (1 : Int)) kq) < (I 111 (4 : Int)) → (((0 ≤ kq ∧ kq < 10) ∧ PIN (xup P kq ((P kq) + (1 : Int))) (kq + 1) ∧ (-2147483648 ≤ (I 111 (4 : Int)) ∧ (I 111 (4 : Int)) ≤ 2147483647)) ∧ (((¬ (pcan (I 111 (4 : Int)) (xup P kq ((P kq) + (1 : Int))) kq = true) → xR d 234 es_234 10 [xr (some 101), xi kq] [] (xsc (xsc (xsc I 101 (xup (I 101) (29 : Int) cl)) 114 (xup P kq ((P kq) + (1 : Int)))) 115 B) L (gG D) 0 0 post) ∧ (pcan (I 111 (4 : Int)) (xup P kq ((P kq) + (1 : Int))) kq = true → (((0 ≤ (kq + (1 : Int)) ∧ (kq + (1 : Int)) < (11 : Int))) ∧ xR d 234 es_234 10 [xr (some 101), xi (kq + (1 : Int))] [] (xsc (xsc (xsc I 101 (xup (I 101) (29 : Int) cl)) 114 (xup (xup P kq ((P kq) + (1 : Int))) (kq + (1 : Int)) (-1 : Int))) 115 B) L (gG D) 0 0 post)))))) ∧ ((I 111 (4 : Int)) ≤ (xup P kq ((P kq) + (1 : Int)) kq) → xR d 234 es_234 10 [xr (some 101), xi (kq + (-1 : Int))] [] (xsc (xsc (xsc I 101 (xup (I 101) (29 : Int) cl)) 114 (xup P kq ((P kq) + (1 : Int)))) 115 B) L (gG D) 0 0 post))))) ∧ (kq = (I 111 (3 : Int)) → (((0 ≤ kq ∧ kq ≤ 10) ∧ PIN P kq) ∧ (((-2147483648 ≤ (pum P (kq).toNat) ∧ (pum P (kq).toNat) ≤ 2147483647) ∧ (-2147483648 ≤ (I 111 (4 : Int)) ∧ (I 111 (4 : Int)) ≤ 2147483647)) ∧ ((¬ (pum P (kq).toNat) = (I 111 (4 : Int)) → xR d 234 es_234 10 [xr (some 101), xi (kq + (-1 : Int))] [] (xsc (xsc (xsc I 101 (xup (I 101) (29 : Int) cl)) 114 P) 115 B) L (gG D) 0 0 post) ∧ ((pum P (kq).toNat) = (I 111 (4 : Int)) → ((SO (I 111) ∧ PIN P (I 111 (3 : Int)) ∧ (-2147483648 ≤ cl ∧ cl ≤ 2147483647)) ∧ xR d 234 es_234 10 [xr (some 101), xi (kq + (-1 : Int))] [] (xsc (xsc (xsc I 101 (xup (I 101) (29 : Int) ((rkp (I 111) P (cl, B)).1))) 114 P) 115 ((rkp (I 111) P (cl, B)).2)) L (gG D) 0 0 post)))))))))))) : xR d 234 es_234 10 [xr (some 101), xi kq] [] (xsc (xsc (xsc I 101 (xup (I 101) (29 : Int) cl)) 114 P) 115 B) L (gG D) 0 0 post := sg_234_10  (⟨h.1, ⟨fun q3119 => (h.2.1 q3119), fun q3120 => ⟨(by decide), ⟨⟨h.1, (h.2.2 q3120).1⟩, ⟨fun q3117 => ⟨((h.2.2 q3120).2.1 q3117).1, ⟨((h.2.2 q3120).2.1 q3117).1, ⟨((h.2.2 q3120).2.1 q3117).1, ⟨(by decide), ⟨⟨((h.2.2 q3120).2.1 q3117).2.1.1, ((h.2.2 q3120).2.1 q3117).2.1.2⟩, ⟨fun q3113 => (xR_cF rfl rfl rfl (c_232 (((h.2.2 q3120).2.1 q3117).2.2.1 q3113).1) (by omega) (sg_234_52  ⟨(xb_rg _), ⟨fun q3111 => (xR_memc ((((h.2.2 q3120).2.1 q3117).2.2.1 q3113).2.1 (xb_0 q3111)) (funext fun i => (xpt rfl (fun h115_ => (xpt rfl (fun h114_ => (xpt rfl (fun h101_ => (by simp only [xsc_ne _ _ h101_, xwr_ne _ _ _ h101_, xsc_ne _ _ h114_, xwr_ne _ _ _ h114_, xsc_ne _ _ h115_, xwr_ne _ _ _ h115_])))))))) rfl), fun q3112 => ⟨((((h.2.2 q3120).2.1 q3117).2.2.1 q3113).2.2 (xb_n0 q3112)).1, (xR_memc ((((h.2.2 q3120).2.1 q3117).2.2.1 q3113).2.2 (xb_n0 q3112)).2 (funext fun i => (xpt rfl (fun h115_ => (xpt rfl (fun h114_ => (xpt rfl (fun h101_ => (by simp only [xsc_ne _ _ h101_, xwr_ne _ _ _ h101_, xsc_ne _ _ h114_, xwr_ne _ _ _ h114_, xsc_ne _ _ h115_, xwr_ne _ _ _ h115_])))))))) rfl)⟩⟩⟩)), fun q3114 => (xR_memc (((h.2.2 q3120).2.1 q3117).2.2.2 q3114) (funext fun i => (xpt rfl (fun h115_ => (xpt rfl (fun h114_ => (xpt rfl (fun h101_ => (by simp only [xsc_ne _ _ h101_, xwr_ne _ _ _ h101_, xsc_ne _ _ h114_, xwr_ne _ _ _ h114_, xsc_ne _ _ h115_, xwr_ne _ _ _ h115_])))))))) rfl)⟩⟩⟩⟩⟩⟩, fun q3118 => (xR_cF rfl rfl rfl (c_230 ((h.2.2 q3120).2.2 q3118).1) (by omega) (sg_234_21  ⟨(by decide), ⟨⟨((h.2.2 q3120).2.2 q3118).2.1.1, ((h.2.2 q3120).2.2 q3118).2.1.2⟩, ⟨fun q3115 => (((h.2.2 q3120).2.2 q3118).2.2.1 q3115), fun q3116 => (xR_cF rfl rfl rfl (c_233 (((h.2.2 q3120).2.2 q3118).2.2.2 q3116).1) (by omega) (sg_234_28  (xR_memc (((h.2.2 q3120).2.2 q3118).2.2.2 q3116).2 (funext fun i => (xpt rfl (fun h115_ => (xpt rfl (fun h114_ => (xpt (show (xup (xup (I 101) (29 : Int) cl) (29 : Int) ((rkp (I 111) P (cl, B)).1)) = (xup (I 101) (29 : Int) ((rkp (I 111) P (cl, B)).1)) from by funext j; simp only [xup]; (repeat' split) <;> first | rfl | omega) (fun h101_ => (by simp only [xsc_ne _ _ h101_, xwr_ne _ _ _ h101_, xsc_ne _ _ h114_, xwr_ne _ _ _ h114_, xsc_ne _ _ h115_, xwr_ne _ _ _ h115_])))))))) rfl)))⟩⟩⟩))⟩⟩⟩⟩⟩)
theorem lp_234 {I : XI} {L : XL} {D : GD} {d : Nat} {post : XQ} (hd : 3 ≤ d) (hS : SO (I 111)) : ∀ (K : Nat), (K : Int) ≤ I 111 3 → ∀ (P : Int → Int) (st : Int × (Int → Int)), PIN P (I 111 3 - (K : Int)) → P (I 111 3 - (K : Int)) = -1 → (-1 ≤ st.1 ∧ st.1 ≤ 810) → (∀ P2 : Int → Int, (∀ i, 0 ≤ i → i < I 111 3 - (K : Int) → P2 i = P i) → xR d 234 es_234 10 [xr (some 101), xi (I 111 3 - (K : Int) - 1)] [] (xsc (xsc (xsc I 101 (xup (I 101) (29 : Int) ((rcf (I 111) K P st).1))) 114 P2) 115 ((rcf (I 111) K P st).2)) L (gG D) 0 0 post) → xR d 234 es_234 10 [xr (some 101), xi (I 111 3 - (K : Int))] [] (xsc (xsc (xsc I 101 (xup (I 101) (29 : Int) st.1)) 114 P) 115 st.2) L (gG D) 0 0 post := by
  have hn := hS.n
  have hg := hS.g
  intro K
  induction K with
  | zero =>
    intro _ P st hP h1 hr hc
    have e0 : I 111 3 - ((0 : Nat) : Int) = I 111 3 := by omega
    rw [e0] at hP h1 hc ⊢
    have hc := hc P (fun i _ _ => rfl)
    have hpm := pset_rg (p := P) (k := (I 111 3).toNat) (by rw [Int.toNat_of_nonneg hn.1]; exact hP)
    have hpm2 := pbits_rg hpm.1 (by omega)
    have hpm3 : 0 ≤ pum P (I 111 3).toNat ∧ pum P (I 111 3).toNat ≤ 10 := hpm2
    have hG : (0 ≤ I 111 3 ∧ I 111 3 ≤ 10) ∧ PIN P (I 111 3) := ⟨hn, hP⟩
    have hG2 : SO (I 111) ∧ PIN P (I 111 3) ∧ (-2147483648 ≤ st.1 ∧ st.1 ≤ 2147483647) := ⟨hS, hP, by omega⟩
    have e : rcf (I 111) 0 P st = if pum P (I 111 3).toNat = I 111 4 then rkp (I 111) P st else st := rfl
    rw [e] at hc
    refine b_234 (by omega) ?_
    refine ⟨by omega, fun h => absurd h (by omega), fun _ => ⟨by omega, fun h => absurd rfl h, fun _ => ⟨hG, by omega, fun q => ?_, fun q => ⟨hG2, ?_⟩⟩⟩⟩
    · rw [if_neg q] at hc; exact hc
    · rw [if_pos q] at hc; exact hc
  | succ K ih =>
    intro hK P st hP h1 hr hc
    have es : I 111 3 - ((K + 1 : Nat) : Int) = I 111 3 - (K : Int) - 1 := by omega
    rw [es] at hP h1 hc ⊢
    have hrn : ∀ g : Nat, -1 ≤ (nfold (fun g st => if pcan (I 111 4) (xup P (I 111 3 - (K : Int) - 1) (g : Int)) (I 111 3 - (K : Int) - 1) = true then rcf (I 111) K (xup P (I 111 3 - (K : Int) - 1) (g : Int)) st else st) g st).1 ∧ (nfold (fun g st => if pcan (I 111 4) (xup P (I 111 3 - (K : Int) - 1) (g : Int)) (I 111 3 - (K : Int) - 1) = true then rcf (I 111) K (xup P (I 111 3 - (K : Int) - 1) (g : Int)) st else st) g st).1 ≤ 810 := by
      intro g
      induction g with
      | zero => exact hr
      | succ g ihg =>
        have ef : (nfold (fun g st => if pcan (I 111 4) (xup P (I 111 3 - (K : Int) - 1) (g : Int)) (I 111 3 - (K : Int) - 1) = true then rcf (I 111) K (xup P (I 111 3 - (K : Int) - 1) (g : Int)) st else st) (g + 1) st) = if pcan (I 111 4) (xup P (I 111 3 - (K : Int) - 1) (g : Int)) (I 111 3 - (K : Int) - 1) = true then rcf (I 111) K (xup P (I 111 3 - (K : Int) - 1) (g : Int)) (nfold (fun g st => if pcan (I 111 4) (xup P (I 111 3 - (K : Int) - 1) (g : Int)) (I 111 3 - (K : Int) - 1) = true then rcf (I 111) K (xup P (I 111 3 - (K : Int) - 1) (g : Int)) st else st) g st) else (nfold (fun g st => if pcan (I 111 4) (xup P (I 111 3 - (K : Int) - 1) (g : Int)) (I 111 3 - (K : Int) - 1) = true then rcf (I 111) K (xup P (I 111 3 - (K : Int) - 1) (g : Int)) st else st) g st) := rfl
        rw [ef]
        split
        · exact (rcf_rg hS K _ _ ihg).1
        · exact ihg
    have key : ∀ g : Nat, g ≤ (I 111 4).toNat → ∀ P1 : Int → Int, (∀ i, 0 ≤ i → i < I 111 3 - (K : Int) - 1 → P1 i = P i) → P1 (I 111 3 - (K : Int) - 1) = (g : Int) - 1 → xR d 234 es_234 10 [xr (some 101), xi (I 111 3 - (K : Int) - 1)] [] (xsc (xsc (xsc I 101 (xup (I 101) (29 : Int) ((nfold (fun g st => if pcan (I 111 4) (xup P (I 111 3 - (K : Int) - 1) (g : Int)) (I 111 3 - (K : Int) - 1) = true then rcf (I 111) K (xup P (I 111 3 - (K : Int) - 1) (g : Int)) st else st) g st).1))) 114 P1) 115 ((nfold (fun g st => if pcan (I 111 4) (xup P (I 111 3 - (K : Int) - 1) (g : Int)) (I 111 3 - (K : Int) - 1) = true then rcf (I 111) K (xup P (I 111 3 - (K : Int) - 1) (g : Int)) st else st) g st).2)) L (gG D) 0 0 post := by
      refine xfor ?_ ?_
      · intro P1 hp1 hp2
        have hc2 := hc (xup P1 (I 111 3 - (K : Int) - 1) (((I 111 4).toNat : Int) - 1 + 1)) (fun i i0 i1 => by rw [xup_ne _ _ (by omega)]; exact hp1 i i0 i1)
        have eP : xup P1 (I 111 3 - (K : Int) - 1) (((I 111 4).toNat : Int) - 1 + 1) (I 111 3 - (K : Int) - 1) = I 111 4 := by rw [xup_same]; omega
        refine b_234 (by omega) ?_
        simp only [hp2, eP]
        refine ⟨by omega, fun h => absurd h (by omega), fun _ => ⟨by omega, fun _ => ⟨by omega, by omega, fun h => absurd h (by omega), fun _ => ?_⟩, fun h => absurd h (by omega)⟩⟩
        exact hc2
      · intro g hgl ihg P1 hp1 hp2
        have eP : xup P1 (I 111 3 - (K : Int) - 1) ((g : Int) - 1 + 1) = xup P1 (I 111 3 - (K : Int) - 1) (g : Int) := by rw [show (g : Int) - 1 + 1 = (g : Int) by omega]
        have eP2 : xup P1 (I 111 3 - (K : Int) - 1) (g : Int) (I 111 3 - (K : Int) - 1) = (g : Int) := xup_same _ _ _
        have hag : ∀ i, 0 ≤ i → i ≤ I 111 3 - (K : Int) - 1 → xup P1 (I 111 3 - (K : Int) - 1) (g : Int) i = xup P (I 111 3 - (K : Int) - 1) (g : Int) i := by
          intro i i0 i1
          by_cases qi : i = I 111 3 - (K : Int) - 1
          · rw [qi, xup_same, xup_same]
          · rw [xup_ne _ _ qi, xup_ne _ _ qi]; exact hp1 i i0 (by omega)
        have hPI : PIN (xup P1 (I 111 3 - (K : Int) - 1) (g : Int)) (I 111 3 - (K : Int) - 1 + 1) := by
          intro i i0 i1
          by_cases qi : i = I 111 3 - (K : Int) - 1
          · rw [qi, xup_same]; omega
          · rw [xup_ne _ _ qi, hp1 i i0 (by omega)]; exact hP i i0 (by omega)
        have ecan := pcan_congr (G4 := I 111 4) (k := I 111 3 - (K : Int) - 1) (by omega) hag
        have ef : (nfold (fun g st => if pcan (I 111 4) (xup P (I 111 3 - (K : Int) - 1) (g : Int)) (I 111 3 - (K : Int) - 1) = true then rcf (I 111) K (xup P (I 111 3 - (K : Int) - 1) (g : Int)) st else st) (g + 1) st) = if pcan (I 111 4) (xup P (I 111 3 - (K : Int) - 1) (g : Int)) (I 111 3 - (K : Int) - 1) = true then rcf (I 111) K (xup P (I 111 3 - (K : Int) - 1) (g : Int)) (nfold (fun g st => if pcan (I 111 4) (xup P (I 111 3 - (K : Int) - 1) (g : Int)) (I 111 3 - (K : Int) - 1) = true then rcf (I 111) K (xup P (I 111 3 - (K : Int) - 1) (g : Int)) st else st) g st) else (nfold (fun g st => if pcan (I 111 4) (xup P (I 111 3 - (K : Int) - 1) (g : Int)) (I 111 3 - (K : Int) - 1) = true then rcf (I 111) K (xup P (I 111 3 - (K : Int) - 1) (g : Int)) st else st) g st) := rfl
        rw [ef, show ((g + 1 : Nat) : Int) - 1 = (g : Int) by omega] at ihg
        have hrg := hrn g
        refine b_234 (by omega) ?_
        simp only [hp2, eP, eP2]
        refine ⟨by omega, fun h => absurd h (by omega), fun _ => ⟨by omega, fun _ => ⟨by omega, by omega, fun _ => ⟨⟨by omega, hPI, by omega⟩, fun q => ?_, fun q => ⟨by omega, ?_⟩⟩, fun h => absurd h (by omega)⟩, fun h => absurd h (by omega)⟩⟩
        · rw [ecan] at q
          rw [if_neg q] at ihg
          exact ihg _ (fun i i0 i1 => by rw [xup_ne _ _ (by omega)]; exact hp1 i i0 i1) (xup_same _ _ _)
        · rw [ecan] at q
          rw [if_pos q] at ihg
          have ek : I 111 3 - (K : Int) - 1 + 1 = I 111 3 - (K : Int) := by omega
          rw [ek]
          refine ih (by omega) (xup (xup P1 (I 111 3 - (K : Int) - 1) (g : Int)) (I 111 3 - (K : Int)) (-1)) (nfold (fun g st => if pcan (I 111 4) (xup P (I 111 3 - (K : Int) - 1) (g : Int)) (I 111 3 - (K : Int) - 1) = true then rcf (I 111) K (xup P (I 111 3 - (K : Int) - 1) (g : Int)) st else st) g st) (fun i i0 i1 => by rw [xup_ne _ _ (by omega)]; exact hPI i i0 (by omega)) (xup_same _ _ _) hrg (fun P2 hP2 => ?_)
          rw [rcf_p hn.1 K (by omega) (xup (xup P1 (I 111 3 - (K : Int) - 1) (g : Int)) (I 111 3 - (K : Int)) (-1)) (xup P (I 111 3 - (K : Int) - 1) (g : Int)) (nfold (fun g st => if pcan (I 111 4) (xup P (I 111 3 - (K : Int) - 1) (g : Int)) (I 111 3 - (K : Int) - 1) = true then rcf (I 111) K (xup P (I 111 3 - (K : Int) - 1) (g : Int)) st else st) g st) (fun i i0 i1 => by rw [xup_ne _ _ (by omega)]; exact hag i i0 (by omega))]
          exact ihg P2 (fun i i0 i1 => by rw [hP2 i i0 (by omega), xup_ne _ _ (by omega), xup_ne _ _ (by omega)]; exact hp1 i i0 i1) (by rw [hP2 _ (by omega) (by omega), xup_ne _ _ (by omega)]; exact eP2)
    exact key 0 (Nat.zero_le _) P (fun i _ _ => rfl) (by rw [h1]; rfl)
theorem c_234 {I : XI} {L : XL} {D : GD}    (h : SO (I 111)) : xM 3 234 [xr (some 101)] I L (gG D) (0, 0) (fun r2 I2 L2 G2 => ∃ (P2 : Int → Int), r2 = none ∧ I2 = (xsc (xsc (xsc I 101 (xup (I 101) (29 : Int) ((rcf (I 111) (I 111 (3 : Int)).toNat (fun _ => 0) (-1, (I 115))).1))) 114 P2) 115 ((rcf (I 111) (I 111 (3 : Int)).toNat (fun _ => 0) (-1, (I 115))).2)) ∧ L2 = L ∧ G2 = (gG D)) := by
  intro d hd
  have hS := h
  have hn := hS.n
  have hg := hS.g
  refine w_234 (by omega) ?_
  refine xR_memc (I2 := (xsc (xsc (xsc I 101 (xup (I 101) (29 : Int) (-1))) 114 (xup (I 114) 0 (-1))) 115 (I 115))) (L2 := L) ?_ (by (funext i; by_cases h101 : i = 101; (subst h101; first | rfl | exact (xcp_zero _ _ _ _).symm | exact (xup_self _ _).symm | exact (xup_self2 _ _ _).symm | exact (xup_self3 _ _ _ _).symm | exact xup_self _ _); by_cases h114 : i = 114; (subst h114; first | rfl | exact (xcp_zero _ _ _ _).symm | exact (xup_self _ _).symm | exact (xup_self2 _ _ _).symm | exact (xup_self3 _ _ _ _).symm | exact xup_self _ _); by_cases h115 : i = 115; (subst h115; first | rfl | exact (xcp_zero _ _ _ _).symm | exact (xup_self _ _).symm | exact (xup_self2 _ _ _).symm | exact (xup_self3 _ _ _ _).symm | exact xup_self _ _); first | rfl | simp only [xsc_ne _ _ h101, xsc_ne _ _ h114, xsc_ne _ _ h115])) rfl
  have e0 : I 111 3 - ((I 111 3).toNat : Int) = 0 := by omega
  have := lp_234 (I := I) (L := L) (D := D) (d := d) (post := fun r2 I2 L2 G2 => ∃ (P2 : Int → Int), r2 = none ∧ I2 = (xsc (xsc (xsc I 101 (xup (I 101) (29 : Int) ((rcf (I 111) (I 111 (3 : Int)).toNat (fun _ => 0) (-1, (I 115))).1))) 114 P2) 115 ((rcf (I 111) (I 111 (3 : Int)).toNat (fun _ => 0) (-1, (I 115))).2)) ∧ L2 = L ∧ G2 = (gG D)) (by omega) hS (I 111 3).toNat (by omega) (xup (I 114) 0 (-1)) (-1, I 115) (by rw [e0]; intro i i0 i1; omega) (by rw [e0]; exact xup_same _ _ _) (by show (-1 : Int) ≤ -1 ∧ (-1 : Int) ≤ 810; decide) (fun P2 _ => by
    rw [rcf_p hn.1 (I 111 3).toNat (by omega) (xup (I 114) 0 (-1)) (fun _ => 0) (-1, I 115) (fun i i0 i1 => by omega)]
    refine b_234 (by omega) ?_
    refine ⟨by omega, fun _ => ⟨_, rfl, rfl, rfl, rfl⟩, fun h => absurd h (by omega)⟩)
  rw [e0] at this
  exact this
def qround (a : Int → Int) (B : Int → Int) (what : Int) : Int := if a 4 = 0 ∨ a 3 < a 4 then -2 else if what = -1 then (rcf a (a 3).toNat (fun _ => 0) (-1, B)).1 else if 0 ≤ what ∧ what < a 3 then (rcf a (a 3).toNat (fun _ => 0) (-1, B)).2 what else -2
set_option maxRecDepth 8000 in
theorem sg_235_0 {d : Nat} {I : XI} {L : XL} {D : GD} {post : XQ}  {u1 : Int} (h : xR d 235 es_235 1 [xr (some 101), xi u1] [xr (some 101)] I L (gG D) 0 0 post) : xR d 235 es_235 0 [xr (some 101), xi u1] [] I L (gG D) 0 0 post := xW_R (fun k => Nat.beq k 1 || Nat.beq k 7 || Nat.beq k 28 || Nat.beq k 37) 1 _ _ _ _ _ _ _ _ _ _ _ _ h
set_option maxRecDepth 8000 in
theorem sg_235_2 {d : Nat} {I : XI} {L : XL} {D : GD} {post : XQ}  {u1 : Int} {w0 : Int} (h : ((-2147483648 ≤ w0 ∧ w0 ≤ 2147483647) ∧ ((w0 = 0 → post (some (xi (-3 : Int))) I L (gG D)) ∧ (¬ w0 = 0 → ((-2147483648 ≤ u1 ∧ u1 ≤ 2147483647) ∧ xR d 235 es_235 7 [xr (some 101), xi u1] [xl (Int64.ofInt 9), xl (Int64.ofInt (-1)), xl (Int64.ofInt u1)] I L (gG D) 0 0 post))))) : xR d 235 es_235 2 [xr (some 101), xi u1] [xi w0] I L (gG D) 0 0 post := xW_R (fun k => Nat.beq k 1 || Nat.beq k 7 || Nat.beq k 28 || Nat.beq k 37) 5 _ _ _ _ _ _ _ _ _ _ _ _ h
set_option maxRecDepth 8000 in
theorem sg_235_8 {d : Nat} {I : XI} {L : XL} {D : GD} {post : XQ}  {u1 : Int} {w0 : Int} (h : ((-2147483648 ≤ w0 ∧ w0 ≤ 2147483647) ∧ ((¬ w0 = 0 → ((0 ≤ (4 : Int) ∧ (4 : Int) < (102 : Int)) ∧ ((-2147483648 ≤ (I 111 (4 : Int)) ∧ (I 111 (4 : Int)) ≤ 2147483647) ∧ (((I 111 (4 : Int)) = 0 → post (some (xi (-2 : Int))) I L (gG D)) ∧ (¬ (I 111 (4 : Int)) = 0 → ((0 ≤ (3 : Int) ∧ (3 : Int) < (102 : Int)) ∧ ((0 ≤ (4 : Int) ∧ (4 : Int) < (102 : Int)) ∧ (((-2147483648 ≤ (I 111 (3 : Int)) ∧ (I 111 (3 : Int)) ≤ 2147483647) ∧ (-2147483648 ≤ (I 111 (4 : Int)) ∧ (I 111 (4 : Int)) ≤ 2147483647)) ∧ (((I 111 (4 : Int)) ≤ (I 111 (3 : Int)) → xR d 235 es_235 28 [xr (some 101), xi u1] [xr (some 101)] I L (gG D) 0 0 post) ∧ ((I 111 (3 : Int)) < (I 111 (4 : Int)) → post (some (xi (-2 : Int))) I L (gG D))))))))))) ∧ (w0 = 0 → post (some (xi (-3 : Int))) I L (gG D))))) : xR d 235 es_235 8 [xr (some 101), xi u1] [xi w0] I L (gG D) 0 0 post := xW_R (fun k => Nat.beq k 1 || Nat.beq k 7 || Nat.beq k 28 || Nat.beq k 37) 17 _ _ _ _ _ _ _ _ _ _ _ _ h
set_option maxRecDepth 8000 in
theorem sg_235_29 {d : Nat} {I : XI} {L : XL} {D : GD} {post : XQ}  {u1 : Int} (h : (((-2147483648 ≤ u1 ∧ u1 ≤ 2147483647) ∧ (-2147483648 ≤ (-1 : Int) ∧ (-1 : Int) ≤ 2147483647)) ∧ ((¬ u1 = (-1 : Int) → xR d 235 es_235 37 [xr (some 101), xi u1] [xi u1, xr (some 101)] I L (gG D) 0 0 post) ∧ (u1 = (-1 : Int) → post (some (xi (I 101 (29 : Int)))) I L (gG D))))) : xR d 235 es_235 29 [xr (some 101), xi u1] [] I L (gG D) 0 0 post := xW_R (fun k => Nat.beq k 1 || Nat.beq k 7 || Nat.beq k 28 || Nat.beq k 37) 7 _ _ _ _ _ _ _ _ _ _ _ _ h
set_option maxRecDepth 8000 in
theorem sg_235_38 {d : Nat} {I : XI} {L : XL} {D : GD} {post : XQ}  {u1 : Int} {w0 : Int} (h : ((-2147483648 ≤ w0 ∧ w0 ≤ 2147483647) ∧ ((w0 = 0 → post (some (xi (-2 : Int))) I L (gG D)) ∧ (¬ w0 = 0 → ((0 ≤ u1 ∧ u1 < (11 : Int)) ∧ post (some (xi (I 115 u1))) I L (gG D)))))) : xR d 235 es_235 38 [xr (some 101), xi u1] [xi w0] I L (gG D) 0 0 post := xW_R (fun k => Nat.beq k 1 || Nat.beq k 7 || Nat.beq k 28 || Nat.beq k 37) 7 _ _ _ _ _ _ _ _ _ _ _ _ h
set_option maxRecDepth 8000 in
theorem w_235 {d : Nat} {I : XI} {L : XL} {D : GD} {post : XQ}   {what : Int} (hd : 4 ≤ d) (h : (SO (I 111) ∧ (((¬ (I 111 (0 : Int) = 1) → post (some (xi (-3 : Int))) I L (gG D)) ∧ (I 111 (0 : Int) = 1 → (((-2147483648 ≤ what ∧ what ≤ 2147483647)) ∧ (((-2147483648 ≤ what ∧ what ≤ 2147483647) ∧ (-2147483648 ≤ (-1) ∧ (-1) ≤ 2147483647) ∧ (-2147483648 ≤ (9 : Int) ∧ (9 : Int) ≤ 2147483647)) ∧ ((((-1) ≤ what ∧ what ≤ (9 : Int) → (((-2147483648 ≤ (I 111 (4 : Int)) ∧ (I 111 (4 : Int)) ≤ 2147483647)) ∧ (((I 111 (4 : Int)) = 0 → post (some (xi (-2 : Int))) I L (gG D)) ∧ (¬ (I 111 (4 : Int)) = 0 → (((-2147483648 ≤ (I 111 (3 : Int)) ∧ (I 111 (3 : Int)) ≤ 2147483647)) ∧ (((I 111 (4 : Int)) ≤ (I 111 (3 : Int)) → (∀ (e3121 : Int → Int), (((¬ what = (-1 : Int) → ((SO (I 111) ∧ (-2147483648 ≤ what ∧ what ≤ 2147483647)) ∧ (((¬ (0 ≤ what ∧ what < I 111 (3 : Int)) → post (some (xi (-2 : Int))) (xsc (xsc (xsc I 101 (xup (I 101) (29 : Int) ((rcf (I 111) (I 111 (3 : Int)).toNat (fun _ => 0) (-1, (I 115))).1))) 114 e3121) 115 ((rcf (I 111) (I 111 (3 : Int)).toNat (fun _ => 0) (-1, (I 115))).2)) L (gG D)) ∧ (0 ≤ what ∧ what < I 111 (3 : Int) → (((0 ≤ what ∧ what < (11 : Int))) ∧ post (some (xi ((rcf (I 111) (I 111 (3 : Int)).toNat (fun _ => 0) (-1, (I 115))).2 what))) (xsc (xsc (xsc I 101 (xup (I 101) (29 : Int) ((rcf (I 111) (I 111 (3 : Int)).toNat (fun _ => 0) (-1, (I 115))).1))) 114 e3121) 115 ((rcf (I 111) (I 111 (3 : Int)).toNat (fun _ => 0) (-1, (I 115))).2)) L (gG D))))))) ∧ (what = (-1 : Int) → post (some (xi ((rcf (I 111) (I 111 (3 : Int)).toNat (fun _ => 0) (-1, (I 115))).1))) (xsc (xsc (xsc I 101 (xup (I 101) (29 : Int) ((rcf (I 111) (I 111 (3 : Int)).toNat (fun _ => 0) (-1, (I 115))).1))) 114 e3121) 115 ((rcf (I 111) (I 111 (3 : Int)).toNat (fun _ => 0) (-1, (I 115))).2)) L (gG D)))))) ∧ ((I 111 (3 : Int)) < (I 111 (4 : Int)) → post (some (xi (-2 : Int))) I L (gG D)))))))) ∧ (¬ ((-1) ≤ what ∧ what ≤ (9 : Int)) → post (some (xi (-3 : Int))) I L (gG D))))))))))) : xR d 235 es_235 0 [xr (some 101), xi what] [] I L (gG D) 0 0 post := sg_235_0  ((xR_cF rfl rfl rfl (c_192 h.1) (by omega) (sg_235_2  ⟨(xb_rg _), ⟨fun q3132 => (h.2.1 (xb_0 q3132)), fun q3133 => ⟨(h.2.2 (xb_n0 q3133)).1, (xR_cF rfl rfl rfl (c_147 (h.2.2 (xb_n0 q3133)).2.1) (by omega) (sg_235_8  ⟨(xb_rg _), ⟨fun q3130 => ⟨(by decide), ⟨((h.2.2 (xb_n0 q3133)).2.2.1 (xb_n0 q3130)).1, ⟨fun q3128 => (((h.2.2 (xb_n0 q3133)).2.2.1 (xb_n0 q3130)).2.1 q3128), fun q3129 => ⟨(by decide), ⟨(by decide), ⟨⟨(((h.2.2 (xb_n0 q3133)).2.2.1 (xb_n0 q3130)).2.2 q3129).1, ((h.2.2 (xb_n0 q3133)).2.2.1 (xb_n0 q3130)).1⟩, ⟨fun q3126 => (xR_cQ rfl rfl rfl (c_234 h.1) (by omega) (fun _ _ _ _ hx3134 => by obtain ⟨e3121, rfl, rfl, rfl, rfl⟩ := hx3134; exact (sg_235_29  ⟨⟨(h.2.2 (xb_n0 q3133)).1, (by decide)⟩, ⟨fun q3124 => (xR_cF rfl rfl rfl (c_193 ((((((h.2.2 (xb_n0 q3133)).2.2.1 (xb_n0 q3130)).2.2 q3129).2.1 q3126) e3121).1 q3124).1) (by omega) (sg_235_38  ⟨(xb_rg _), ⟨fun q3122 => (((((((h.2.2 (xb_n0 q3133)).2.2.1 (xb_n0 q3130)).2.2 q3129).2.1 q3126) e3121).1 q3124).2.1 (xb_0 q3122)), fun q3123 => ⟨(((((((h.2.2 (xb_n0 q3133)).2.2.1 (xb_n0 q3130)).2.2 q3129).2.1 q3126) e3121).1 q3124).2.2 (xb_n0 q3123)).1, (((((((h.2.2 (xb_n0 q3133)).2.2.1 (xb_n0 q3130)).2.2 q3129).2.1 q3126) e3121).1 q3124).2.2 (xb_n0 q3123)).2⟩⟩⟩)), fun q3125 => ((((((h.2.2 (xb_n0 q3133)).2.2.1 (xb_n0 q3130)).2.2 q3129).2.1 q3126) e3121).2 q3125)⟩⟩))), fun q3127 => ((((h.2.2 (xb_n0 q3133)).2.2.1 (xb_n0 q3130)).2.2 q3129).2.2 q3127)⟩⟩⟩⟩⟩⟩⟩, fun q3131 => ((h.2.2 (xb_n0 q3133)).2.2.2 (xb_0 q3131))⟩⟩))⟩⟩⟩)))
theorem c_235 {I : XI} {L : XL} {D : GD}   {what : Int} (h : (SO (I 111) ∧ (-2147483648 ≤ what ∧ what ≤ 2147483647))) : xM 4 235 [xr (some 101), xi what] I L (gG D) (0, 0) (fun r2 I2 L2 G2 => ∃ (c9 : Int) (P2 : Int → Int) (B2 : Int → Int), r2 = (some (xi (if (I 111 (0 : Int) = 1 ∧ (-1 ≤ what ∧ what ≤ 9)) then qround (I 111) (I 115) what else -3))) ∧ I2 = (xsc (xsc (xsc I 101 (xup (I 101) (29 : Int) (if (I 111 (0 : Int) = 1 ∧ (-1 ≤ what ∧ what ≤ 9)) then c9 else I 101 (29 : Int)))) 114 (if (I 111 (0 : Int) = 1 ∧ (-1 ≤ what ∧ what ≤ 9)) then P2 else (I 114))) 115 (if (I 111 (0 : Int) = 1 ∧ (-1 ≤ what ∧ what ≤ 9)) then B2 else (I 115))) ∧ L2 = L ∧ G2 = (gG D)) := by
  intro d hd
  obtain ⟨hS, h1⟩ := h
  have hn := hS.n
  have hg := hS.g
  have hf := hS.f
  refine w_235 (by omega) ?_
  by_cases hc : (I 111 (0 : Int) = 1 ∧ (-1 ≤ what ∧ what ≤ 9))
  · simp only [if_pos hc]
    repeat' first | (with_reducible intro _) | (with_reducible refine And.intro ?_ ?_)
    all_goals first | omega | assumption | exact ⟨hS, by omega⟩ | exact hS | exact ⟨_, _, _, (by first | rfl | trivial), (by first | rfl | trivial), (by first | rfl | trivial), (by first | rfl | trivial)⟩ | skip
    all_goals first
      | (refine ⟨_, _, _, ?_, rfl, (by first | rfl | trivial), (by first | rfl | trivial)⟩
         unfold qround
         first
           | (rw [if_neg (by omega), if_pos (show what = -1 by assumption)]; done)
           | (rw [if_neg (by omega), if_neg (show ¬ what = -1 by assumption), if_pos (by assumption)]; done)
           | (rw [if_neg (by omega), if_neg (show ¬ what = -1 by assumption), if_neg (by assumption)]; done))
      | (refine ⟨I 101 29, I 114, I 115, ?_, by (funext i; by_cases h101 : i = 101; (subst h101; first | rfl | exact (xcp_zero _ _ _ _).symm | exact (xup_self _ _).symm | exact (xup_self2 _ _ _).symm | exact (xup_self3 _ _ _ _).symm | exact xup_self _ _); by_cases h114 : i = 114; (subst h114; first | rfl | exact (xcp_zero _ _ _ _).symm | exact (xup_self _ _).symm | exact (xup_self2 _ _ _).symm | exact (xup_self3 _ _ _ _).symm | exact xup_self _ _); by_cases h115 : i = 115; (subst h115; first | rfl | exact (xcp_zero _ _ _ _).symm | exact (xup_self _ _).symm | exact (xup_self2 _ _ _).symm | exact (xup_self3 _ _ _ _).symm | exact xup_self _ _); first | rfl | simp only [xsc_ne _ _ h101, xsc_ne _ _ h114, xsc_ne _ _ h115]), (by first | rfl | trivial), (by first | rfl | trivial)⟩
         unfold qround
         rw [if_pos (by omega)])
  · simp only [if_neg hc]
    repeat' first | (with_reducible intro _) | (with_reducible refine And.intro ?_ ?_)
    all_goals first | omega | assumption | exact ⟨hS, by omega⟩ | exact hS | (exact ⟨I 101 29, I 114, I 115, (by first | rfl | trivial), (by (funext i; by_cases h101 : i = 101; (subst h101; first | rfl | exact (xcp_zero _ _ _ _).symm | exact (xup_self _ _).symm | exact (xup_self2 _ _ _).symm | exact (xup_self3 _ _ _ _).symm | exact xup_self _ _); by_cases h114 : i = 114; (subst h114; first | rfl | exact (xcp_zero _ _ _ _).symm | exact (xup_self _ _).symm | exact (xup_self2 _ _ _).symm | exact (xup_self3 _ _ _ _).symm | exact xup_self _ _); by_cases h115 : i = 115; (subst h115; first | rfl | exact (xcp_zero _ _ _ _).symm | exact (xup_self _ _).symm | exact (xup_self2 _ _ _).symm | exact (xup_self3 _ _ _ _).symm | exact xup_self _ _); first | rfl | simp only [xsc_ne _ _ h101, xsc_ne _ _ h114, xsc_ne _ _ h115])), (by first | rfl | trivial), (by first | rfl | trivial)⟩) | skip
