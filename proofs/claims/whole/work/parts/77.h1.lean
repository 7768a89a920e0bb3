/-! fair: the reference -/
def nfold {σ : Type} (f : Nat → σ → σ) : Nat → σ → σ
  | 0, s => s
  | k + 1, s => f k (nfold f k s)
def pgT (w : Int → Int) (fr : Int) (c : Nat) : Nat → Nat × (Int → Int)
  | 0 => (c, w)
  | K + 1 => if xand (xshr fr (((w 3).toNat - K - 1 : Nat) : Int)) 1 = 1 then ((pgT w fr c K).1 / (w 4).toNat, xup (pgT w fr c K).2 (11 + (((w 3).toNat - K - 1 : Nat) : Int)) (((pgT w fr c K).1 % (w 4).toNat : Nat) : Int)) else pgT w fr c K
theorem pgT_so {w : Int → Int} {fr : Int} {c : Nat} (h : SO w) (hz : ∀ n : Nat, (n : Int) < w 3 → xand (xshr fr (n : Int)) 1 = 1 → 0 < w 4) : ∀ K : Nat, K ≤ (w 3).toNat → SO (pgT w fr c K).2 ∧ Agr w (pgT w fr c K).2 ∧ (pgT w fr c K).1 ≤ c := by
  intro K
  have hn := h.n
  induction K with
  | zero => intro _; exact ⟨h, fun _ _ => rfl, Nat.le_refl _⟩
  | succ K ih =>
    intro hK
    obtain ⟨i1, i2, i3⟩ := ih (by omega)
    unfold pgT
    split
    · rename_i q
      have hg := hz _ (by omega) q
      have e4 : (pgT w fr c K).2 4 = w 4 := i2 4 (by omega)
      have hm := Nat.mod_lt (pgT w fr c K).1 (show 0 < (w 4).toNat by omega)
      refine ⟨SO_own i1 (by omega) (by omega) (by omega) (by rw [e4]; omega), Agr_up i2 (by omega) (by omega), Nat.le_trans (Nat.div_le_self _ _) i3⟩
    · exact ⟨i1, i2, i3⟩
def Fra (a w : Int → Int) (fr : Int) : Prop := ∀ j, (∀ n : Nat, (n : Int) < a 3 → j = 11 + (n : Int) → ¬ xand (xshr fr (n : Int)) 1 = 1) → w j = a j
theorem Fra.agr {a w : Int → Int} {fr : Int} (h : Fra a w fr) (hS : SO a) : Agr a w := by
  intro j hj
  have hn := hS.n
  exact h j (fun n h1 h2 => by omega)
theorem pgT_fra {a w : Int → Int} {fr : Int} {c : Nat} (h : Fra a w fr) (hS : SO a) : ∀ K : Nat, K ≤ (a 3).toNat → (pgT w fr c K).1 = (pgT a fr c K).1 ∧ ∀ j, (∀ n : Nat, (n : Int) < a 3 - (K : Int) → j = 11 + (n : Int) → ¬ xand (xshr fr (n : Int)) 1 = 1) → (pgT w fr c K).2 j = (pgT a fr c K).2 j := by
  intro K
  have hA := h.agr hS
  have e3 : w 3 = a 3 := hA 3 (by omega)
  have e4 : w 4 = a 4 := hA 4 (by omega)
  induction K with
  | zero => intro _; exact ⟨rfl, fun j hj => h j (fun n h1 h2 => hj n (by omega) h2)⟩
  | succ K ih =>
    intro hK
    obtain ⟨i1, i2⟩ := ih (by omega)
    unfold pgT
    rw [e3, e4]
    split
    · rename_i q
      rw [i1]
      refine ⟨rfl, fun j hj => ?_⟩
      show xup (pgT w fr c K).2 _ _ j = xup (pgT a fr c K).2 _ _ j
      by_cases qj : j = 11 + (((a 3).toNat - K - 1 : Nat) : Int)
      · rw [qj, xup_same, xup_same]
      · rw [xup_ne _ _ qj, xup_ne _ _ qj]
        exact i2 j (fun n h1 h2 => hj n (by omega) h2)
    · rename_i q
      refine ⟨i1, fun j hj => i2 j (fun n h1 h2 => ?_)⟩
      by_cases qn : n = (a 3).toNat - K - 1
      · rw [qn]; exact q
      · exact hj n (by omega) h2
theorem pgT_eq {a w : Int → Int} {fr : Int} {c : Nat} (h : Fra a w fr) (hS : SO a) : (pgT w fr c (w 3).toNat).2 = (pgT a fr c (a 3).toNat).2 := by
  have e3 : w 3 = a 3 := h.agr hS 3 (by omega)
  have hn := hS.n
  rw [e3]
  funext j
  exact (pgT_fra h hS (a 3).toNat (Nat.le_refl _)).2 j (fun n h1 h2 => by omega)
theorem pgT_keep {a : Int → Int} {fr : Int} {c : Nat} (hS : SO a) : ∀ K : Nat, K ≤ (a 3).toNat → Fra a (pgT a fr c K).2 fr := by
  intro K
  induction K with
  | zero => intro _ j hj; rfl
  | succ K ih =>
    intro hK j hj
    unfold pgT
    split
    · rename_i q
      show xup (pgT a fr c K).2 _ _ j = _
      rw [xup_ne _ _ (fun e => hj _ (by omega) e q)]
      exact ih (by omega) j hj
    · exact ih (by omega) j hj
set_option maxRecDepth 8000 in
theorem sg_236_0 {d : Nat} {I : XI} {L : XL} {D : GD} {post : XQ}  {u1 : Int} {u2 : Int} (h : ((0 ≤ (3 : Int) ∧ (3 : Int) < (102 : Int)) ∧ xR d 236 es_236 9 [xr (some 101), xi u1, xi u2, xi u1, xi ((I 111 (3 : Int)) - (1 : Int))] [] I L (gG D) 0 0 post)) : xR d 236 es_236 0 [xr (some 101), xi u1, xi u2, xt 0, xt 0] [] I L (gG D) 0 0 post := xW_R (fun k => Nat.beq k 9 || Nat.beq k 13) 9 _ _ _ _ _ _ _ _ _ _ _ _ h
set_option maxRecDepth 8000 in
theorem w_236 {d : Nat} {I : XI} {L : XL} {D : GD} {post : XQ}   {cd : Int} {fr : Int} (hd : 0 ≤ d) (h : xR d 236 es_236 9 [xr (some 101), xi cd, xi fr, xi cd, xi ((I 111 (3 : Int)) - (1 : Int))] [] I L (gG D) 0 0 post) : xR d 236 es_236 0 [xr (some 101), xi cd, xi fr, xt 0, xt 0] [] I L (gG D) 0 0 post := sg_236_0  (⟨(by decide), h⟩)
set_option maxRecDepth 8000 in
theorem sg_236_9 {d : Nat} {I : XI} {L : XL} {D : GD} {post : XQ}  {u1 : Int} {u2 : Int} {u3 : Int} {u4 : Int} (h : ((-2147483648 ≤ u4 ∧ u4 ≤ 2147483647) ∧ ((u4 < 0 → post none I L (gG D)) ∧ (0 ≤ u4 → xR d 236 es_236 13 [xr (some 101), xi u1, xi u2, xi u3, xi u4] [xi u4, xi u2] I L (gG D) 0 0 post)))) : xR d 236 es_236 9 [xr (some 101), xi u1, xi u2, xi u3, xi u4] [] I L (gG D) 0 0 post := xW_R (fun k => Nat.beq k 9 || Nat.beq k 13) 4 _ _ _ _ _ _ _ _ _ _ _ _ h
set_option maxRecDepth 8000 in
theorem sg_236_14 {d : Nat} {I : XI} {L : XL} {D : GD} {post : XQ}  {u1 : Int} {u2 : Int} {u3 : Int} {u4 : Int} {w0 : Int} (h : ((-2147483648 ≤ w0 ∧ w0 ≤ 2147483647) ∧ ((¬ w0 = 0 → ((0 ≤ (4 : Int) ∧ (4 : Int) < (102 : Int)) ∧ (((-2147483648 ≤ u3 ∧ u3 ≤ 2147483647) ∧ (-2147483648 ≤ (I 111 (4 : Int)) ∧ (I 111 (4 : Int)) ≤ 2147483647) ∧ ¬ (I 111 (4 : Int)) = 0) ∧ ((0 ≤ ((11 : Int) + u4) ∧ ((11 : Int) + u4) < (102 : Int)) ∧ ((0 ≤ (4 : Int) ∧ (4 : Int) < (102 : Int)) ∧ (((-2147483648 ≤ u3 ∧ u3 ≤ 2147483647) ∧ (-2147483648 ≤ (xup (I 111) ((11 : Int) + u4) (Int.tmod u3 (I 111 (4 : Int))) (4 : Int)) ∧ (xup (I 111) ((11 : Int) + u4) (Int.tmod u3 (I 111 (4 : Int))) (4 : Int)) ≤ 2147483647) ∧ ¬ (xup (I 111) ((11 : Int) + u4) (Int.tmod u3 (I 111 (4 : Int))) (4 : Int)) = 0) ∧ xR d 236 es_236 9 [xr (some 101), xi u1, xi u2, xi (Int.tdiv u3 (xup (I 111) ((11 : Int) + u4) (Int.tmod u3 (I 111 (4 : Int))) (4 : Int))), xi (u4 + (-1 : Int))] [] (xwr I 111 ((11 : Int) + u4) (Int.tmod u3 (I 111 (4 : Int)))) L (gG D) 0 0 post)))))) ∧ (w0 = 0 → xR d 236 es_236 9 [xr (some 101), xi u1, xi u2, xi u3, xi (u4 + (-1 : Int))] [] I L (gG D) 0 0 post)))) : xR d 236 es_236 14 [xr (some 101), xi u1, xi u2, xi u3, xi u4] [xi w0] I L (gG D) 0 0 post := xW_R (fun k => Nat.beq k 9 || Nat.beq k 13) 22 _ _ _ _ _ _ _ _ _ _ _ _ h
set_option maxRecDepth 8000 in
theorem b_236 {d : Nat} {I : XI} {L : XL} {D : GD} {post : XQ} {rw_ : Int → Int}  {cd : Int} {fr : Int} {re : Int} {s : Int} (hd : 1 ≤ d) (h : (((-2147483648 ≤ s ∧ s ≤ 2147483647)) ∧ ((s < 0 → post none (xsc I 111 rw_) L (gG D)) ∧ (0 ≤ s → (((xand (xshr fr s) (1 : Int) = (1 : Int) → (((-2147483648 ≤ re ∧ re ≤ 2147483647) ∧ (-2147483648 ≤ (rw_ (4 : Int)) ∧ (rw_ (4 : Int)) ≤ 2147483647) ∧ ¬ (rw_ (4 : Int)) = 0) ∧ (((0 ≤ ((11 : Int) + s) ∧ ((11 : Int) + s) < (102 : Int))) ∧ (((-2147483648 ≤ (xup rw_ ((11 : Int) + s) (Int.tmod re (rw_ (4 : Int))) (4 : Int)) ∧ (xup rw_ ((11 : Int) + s) (Int.tmod re (rw_ (4 : Int))) (4 : Int)) ≤ 2147483647) ∧ ¬ (xup rw_ ((11 : Int) + s) (Int.tmod re (rw_ (4 : Int))) (4 : Int)) = 0) ∧ xR d 236 es_236 9 [xr (some 101), xi cd, xi fr, xi (Int.tdiv re (xup rw_ ((11 : Int) + s) (Int.tmod re (rw_ (4 : Int))) (4 : Int))), xi (s + (-1 : Int))] [] (xsc I 111 (xup rw_ ((11 : Int) + s) (Int.tmod re (rw_ (4 : Int))))) L (gG D) 0 0 post)))) ∧ (¬ (xand (xshr fr s) (1 : Int) = (1 : Int)) → xR d 236 es_236 9 [xr (some 101), xi cd, xi fr, xi re, xi (s + (-1 : Int))] [] (xsc I 111 rw_) L (gG D) 0 0 post))))))) : xR d 236 es_236 9 [xr (some 101), xi cd, xi fr, xi re, xi s] [] (xsc I 111 rw_) L (gG D) 0 0 post := sg_236_9  (⟨h.1, ⟨fun q2948 => (h.2.1 q2948), fun q2949 => (xR_cF rfl rfl rfl c_148 (by omega) (sg_236_14  ⟨(xb_rg _), ⟨fun q2946 => ⟨(by decide), ⟨⟨((h.2.2 q2949).1 (xb_n0 q2946)).1.1, ((h.2.2 q2949).1 (xb_n0 q2946)).1.2.1, ((h.2.2 q2949).1 (xb_n0 q2946)).1.2.2⟩, ⟨((h.2.2 q2949).1 (xb_n0 q2946)).2.1, ⟨(by decide), ⟨⟨((h.2.2 q2949).1 (xb_n0 q2946)).1.1, ((h.2.2 q2949).1 (xb_n0 q2946)).2.2.1.1, ((h.2.2 q2949).1 (xb_n0 q2946)).2.2.1.2⟩, (xR_memc ((h.2.2 q2949).1 (xb_n0 q2946)).2.2.2 (funext fun i => (xpt rfl (fun h111_ => (by simp only [xsc_ne _ _ h111_, xwr_ne _ _ _ h111_])))) rfl)⟩⟩⟩⟩⟩, fun q2947 => ((h.2.2 q2949).2 (xb_0 q2947))⟩⟩))⟩⟩)
theorem c_236 {I : XI} {L : XL} {D : GD}   {cd : Int} {fr : Int} (h : (SO (I 111) ∧ (0 ≤ cd ∧ cd ≤ 1000000) ∧ (∀ n : Nat, (n : Int) < I 111 (3 : Int) → xand (xshr fr (n : Int)) 1 = 1 → 0 < I 111 (4 : Int)))) : xM 1 236 [xr (some 101), xi cd, xi fr] I L (gG D) (0, 0) (xD none (xsc I 111 ((pgT (I 111) fr (cd).toNat (I 111 (3 : Int)).toNat).2)) L (gG D)) := by
  intro d hd
  obtain ⟨hS, h1, hz⟩ := h
  have hn := hS.n
  have hg := hS.g
  refine w_236 (by omega) ?_
  have key : ∀ k : Nat, k ≤ (I 111 3).toNat → xR d 236 es_236 9 [xr (some 101), xi cd, xi fr, xi ((pgT (I 111) fr cd.toNat k).1 : Int), xi (I 111 3 - 1 - (k : Int))] [] (xsc I 111 ((pgT (I 111) fr cd.toNat k).2)) L (gG D) 0 0 (xD none (xsc I 111 ((pgT (I 111) fr (cd).toNat (I 111 (3 : Int)).toNat).2)) L (gG D)) := by
    refine xfor ?_ ?_
    · refine b_236 (by omega) ?_
      repeat' first | (with_reducible intro _) | (with_reducible refine And.intro ?_ ?_)
      all_goals first | omega | assumption | skip
      exact xD_in
    · intro k hk ih 
      obtain ⟨hp1, hp2, hp3⟩ := pgT_so (c := cd.toNat) hS hz k (by omega)
      have e4 : (pgT (I 111) fr cd.toNat k).2 4 = I 111 4 := hp2 4 (by omega)
      have es : (((I 111 3).toNat - k - 1 : Nat) : Int) = I 111 3 - 1 - (k : Int) := by omega
      have hx := xand1 (xshr fr (I 111 3 - 1 - (k : Int)))
      have hzk := hz ((I 111 3).toNat - k - 1) (by omega)
      rw [es] at hzk
      have e : (pgT (I 111) fr cd.toNat (k + 1)) = if xand (xshr fr (((I 111 3).toNat - k - 1 : Nat) : Int)) 1 = 1 then ((pgT (I 111) fr cd.toNat k).1 / (I 111 4).toNat, xup (pgT (I 111) fr cd.toNat k).2 (11 + (((I 111 3).toNat - k - 1 : Nat) : Int)) (((pgT (I 111) fr cd.toNat k).1 % (I 111 4).toNat : Nat) : Int)) else (pgT (I 111) fr cd.toNat k) := rfl
      rw [es] at e
      have eg : I 111 4 = (((I 111 4).toNat : Nat) : Int) := by omega
      have ed : Int.tdiv ((pgT (I 111) fr cd.toNat k).1 : Int) (I 111 4) = (((pgT (I 111) fr cd.toNat k).1 / (I 111 4).toNat : Nat) : Int) := by rw [eg]; rfl
      have em : Int.tmod ((pgT (I 111) fr cd.toNat k).1 : Int) (I 111 4) = (((pgT (I 111) fr cd.toNat k).1 % (I 111 4).toNat : Nat) : Int) := by rw [eg]; rfl
      have ex4 : ∀ v, xup (pgT (I 111) fr cd.toNat k).2 (11 + (I 111 3 - 1 - (k : Int))) v 4 = I 111 4 := fun v => by rw [xup_ne _ _ (by omega)]; exact e4
      rw [show I 111 3 - 1 - ((k + 1 : Nat) : Int) = I 111 3 - 1 - (k : Int) + -1 by omega] at ih
      refine b_236 (by omega) ?_
      simp only [e4, ex4, ed, em]
      repeat' first | (with_reducible intro _) | (with_reducible refine And.intro ?_ ?_)
      all_goals first | omega | assumption | skip
      all_goals first
        | (have := hzk (by assumption); omega)
        | (rw [if_pos (by assumption)] at e; rw [e] at ih; exact ih)
        | (rw [if_neg (by assumption)] at e; rw [e] at ih; exact ih)
  have k0 := key 0 (Nat.zero_le _)
  rw [show (((pgT (I 111) fr cd.toNat 0).1 : Nat) : Int) = cd by show ((cd.toNat : Nat) : Int) = cd; omega, show I 111 3 - 1 - ((0 : Nat) : Int) = I 111 3 - 1 by omega] at k0
  exact xR_memc k0 (by (funext i; by_cases h111 : i = 111; (subst h111; first | rfl | exact (xcp_zero _ _ _ _).symm | exact (xup_self _ _).symm | exact (xup_self2 _ _ _).symm | exact (xup_self3 _ _ _ _).symm | exact xup_self _ _); first | rfl | simp only [xsc_ne _ _ h111])) rfl
def pfs (a : Int → Int) (fr : Int) (c : Nat) (st : Int × (Int → Int)) : Int × (Int → Int) := if qenvy (pgT a fr c (a 3).toNat).2 = 0 then (st.1 + 1, if st.1 = 0 then (pgT a fr c (a 3).toNat).2 else st.2) else st
def pfa (a : Int → Int) (fr : Int) (n : Nat) : Int × (Int → Int) := nfold (pfs a fr) n (0, a)
theorem pfa_rg (a : Int → Int) (fr : Int) : ∀ n : Nat, 0 ≤ (pfa a fr n).1 ∧ (pfa a fr n).1 ≤ (n : Int) := by
  intro n
  induction n with
  | zero => exact ⟨Int.le_refl _, Int.le_refl _⟩
  | succ n ih =>
    show 0 ≤ (pfs a fr n (pfa a fr n)).1 ∧ (pfs a fr n (pfa a fr n)).1 ≤ _
    unfold pfs
    split
    · simp only; omega
    · omega
def pcodes (a : Int → Int) (fr : Int) : Nat := (a 4).toNat ^ (pbits fr).toNat
set_option maxRecDepth 8000 in
theorem sg_237_0 {d : Nat} {I : XI} {L : XL} {D : GD} {post : XQ}  {u1 : Int} (h : xR d 237 es_237 4 [xr (some 101), xi u1, xi (1 : Int), xi (0 : Int), xt 0] [] I L (gG D) 0 0 post) : xR d 237 es_237 0 [xr (some 101), xi u1, xt 0, xt 0, xt 0] [] I L (gG D) 0 0 post := xW_R (fun k => Nat.beq k 4 || Nat.beq k 6 || Nat.beq k 22 || Nat.beq k 28 || Nat.beq k 30 || Nat.beq k 35) 4 _ _ _ _ _ _ _ _ _ _ _ _ h
set_option maxRecDepth 8000 in
theorem w_237 {d : Nat} {I : XI} {L : XL} {D : GD} {post : XQ}   {fr : Int} (hd : 0 ≤ d) (h : xR d 237 es_237 4 [xr (some 101), xi fr, xi (1 : Int), xi (0 : Int), xt 0] [] I L (gG D) 0 0 post) : xR d 237 es_237 0 [xr (some 101), xi fr, xt 0, xt 0, xt 0] [] I L (gG D) 0 0 post := sg_237_0  (h)
set_option maxRecDepth 8000 in
theorem sg_237_4 {d : Nat} {I : XI} {L : XL} {D : GD} {post : XQ}  {u1 : Int} {u2 : Int} {u3 : Int} {u4 : XV} (h : xR d 237 es_237 6 [xr (some 101), xi u1, xi u2, xi u3, u4] [xi u1, xi u3] I L (gG D) 0 0 post) : xR d 237 es_237 4 [xr (some 101), xi u1, xi u2, xi u3, u4] [] I L (gG D) 0 0 post := xW_R (fun k => Nat.beq k 4 || Nat.beq k 6 || Nat.beq k 22 || Nat.beq k 28 || Nat.beq k 30 || Nat.beq k 35) 2 _ _ _ _ _ _ _ _ _ _ _ _ h
set_option maxRecDepth 8000 in
theorem sg_237_7 {d : Nat} {I : XI} {L : XL} {D : GD} {post : XQ}  {u1 : Int} {u2 : Int} {u3 : Int} {u4 : XV} {w0 : Int} {w1 : Int} (h : (((-2147483648 ≤ w0 ∧ w0 ≤ 2147483647) ∧ (-2147483648 ≤ w1 ∧ w1 ≤ 2147483647)) ∧ ((w1 ≤ w0 → xR d 237 es_237 22 [xr (some 101), xi u1, xi u2, xi (0 : Int), u4] [] (xwr I 101 (31 : Int) (0 : Int)) L (gG D) 0 0 post) ∧ (w0 < w1 → ((0 ≤ (4 : Int) ∧ (4 : Int) < (102 : Int)) ∧ xR d 237 es_237 4 [xr (some 101), xi u1, xi (u2 * (I 111 (4 : Int))), xi (u3 + (1 : Int)), u4] [] I L (gG D) 0 0 post))))) : xR d 237 es_237 7 [xr (some 101), xi u1, xi u2, xi u3, u4] [xi w1, xi w0] I L (gG D) 0 0 post := xW_R (fun k => Nat.beq k 4 || Nat.beq k 6 || Nat.beq k 22 || Nat.beq k 28 || Nat.beq k 30 || Nat.beq k 35) 10 _ _ _ _ _ _ _ _ _ _ _ _ h
set_option maxRecDepth 8000 in
theorem b_237a {d : Nat} {I : XI} {L : XL} {D : GD} {post : XQ}   {fr : Int} {co : Int} {k3 : Int} {x4 : XV} (hd : 1 ≤ d) (h : ((0 ≤ fr ∧ fr < 1024) ∧ (((-2147483648 ≤ k3 ∧ k3 ≤ 2147483647) ∧ (-2147483648 ≤ (pbits fr) ∧ (pbits fr) ≤ 2147483647)) ∧ (((pbits fr) ≤ k3 → xR d 237 es_237 22 [xr (some 101), xi fr, xi co, xi (0 : Int), x4] [] (xsc I 101 (xup (I 101) (31 : Int) (0 : Int))) L (gG D) 0 0 post) ∧ (k3 < (pbits fr) → xR d 237 es_237 4 [xr (some 101), xi fr, xi (co * (I 111 (4 : Int))), xi (k3 + (1 : Int)), x4] [] I L (gG D) 0 0 post))))) : xR d 237 es_237 4 [xr (some 101), xi fr, xi co, xi k3, x4] [] I L (gG D) 0 0 post := sg_237_4  ((xR_cF rfl rfl rfl (c_149 h.1) (by omega) (sg_237_7  ⟨⟨h.2.1.1, h.2.1.2⟩, ⟨fun q2950 => (h.2.2.1 q2950), fun q2951 => ⟨(by decide), (h.2.2.2 q2951)⟩⟩⟩)))
set_option maxRecDepth 8000 in
theorem sg_237_22 {d : Nat} {I : XI} {L : XL} {D : GD} {post : XQ}  {u1 : Int} {u2 : Int} {u3 : Int} {u4 : XV} (h : (((-2147483648 ≤ u3 ∧ u3 ≤ 2147483647) ∧ (-2147483648 ≤ u2 ∧ u2 ≤ 2147483647)) ∧ ((u2 ≤ u3 → post none I L (gG D)) ∧ (u3 < u2 → xR d 237 es_237 28 [xr (some 101), xi u1, xi u2, xi u3, u4] [xi u1, xi u3, xr (some 101)] I L (gG D) 0 0 post)))) : xR d 237 es_237 22 [xr (some 101), xi u1, xi u2, xi u3, u4] [] I L (gG D) 0 0 post := xW_R (fun k => Nat.beq k 4 || Nat.beq k 6 || Nat.beq k 22 || Nat.beq k 28 || Nat.beq k 30 || Nat.beq k 35) 6 _ _ _ _ _ _ _ _ _ _ _ _ h
set_option maxRecDepth 8000 in
theorem sg_237_29 {d : Nat} {I : XI} {L : XL} {D : GD} {post : XQ}  {u1 : Int} {u2 : Int} {u3 : Int} {u4 : XV} (h : xR d 237 es_237 30 [xr (some 101), xi u1, xi u2, xi u3, u4] [xr (some 101)] I L (gG D) 0 0 post) : xR d 237 es_237 29 [xr (some 101), xi u1, xi u2, xi u3, u4] [] I L (gG D) 0 0 post := xW_R (fun k => Nat.beq k 4 || Nat.beq k 6 || Nat.beq k 22 || Nat.beq k 28 || Nat.beq k 30 || Nat.beq k 35) 1 _ _ _ _ _ _ _ _ _ _ _ _ h
set_option maxRecDepth 8000 in
theorem sg_237_31 {d : Nat} {I : XI} {L : XL} {D : GD} {post : XQ}  {u1 : Int} {u2 : Int} {u3 : Int} {u4 : XV} {w0 : Int} (h : ((-2147483648 ≤ w0 ∧ w0 ≤ 2147483647) ∧ ((w0 = 0 → xR d 237 es_237 35 [xr (some 101), xi u1, xi u2, xi u3, xi (0 : Int)] [] I L (gG D) 0 0 post) ∧ (¬ w0 = 0 → xR d 237 es_237 22 [xr (some 101), xi u1, xi u2, xi (u3 + (1 : Int)), u4] [] I L (gG D) 0 0 post)))) : xR d 237 es_237 31 [xr (some 101), xi u1, xi u2, xi u3, u4] [xi w0] I L (gG D) 0 0 post := xW_R (fun k => Nat.beq k 4 || Nat.beq k 6 || Nat.beq k 22 || Nat.beq k 28 || Nat.beq k 30 || Nat.beq k 35) 4 _ _ _ _ _ _ _ _ _ _ _ _ h
set_option maxRecDepth 8000 in
theorem b_237b {d : Nat} {I : XI} {L : XL} {D : GD} {post : XQ} {fm : Int} {rw_ fn_ : Int → Int}  {fr : Int} {co : Int} {cd : Int} {x4 : XV} (hd : 5 ≤ d) (h : (((-2147483648 ≤ cd ∧ cd ≤ 2147483647) ∧ (-2147483648 ≤ co ∧ co ≤ 2147483647)) ∧ ((co ≤ cd → post none (xsc (xsc (xsc I 101 (xup (I 101) (31 : Int) fm)) 111 rw_) 116 fn_) L (gG D)) ∧ (cd < co → ((SO rw_ ∧ (0 ≤ cd ∧ cd ≤ 1000000) ∧ (∀ n : Nat, (n : Int) < rw_ (3 : Int) → xand (xshr fr (n : Int)) 1 = 1 → 0 < rw_ (4 : Int))) ∧ (SO ((pgT rw_ fr (cd).toNat (rw_ (3 : Int)).toNat).2) ∧ (((-2147483648 ≤ (if (pgT rw_ fr (cd).toNat (rw_ (3 : Int)).toNat).2 (0 : Int) = 1 then qenvy ((pgT rw_ fr (cd).toNat (rw_ (3 : Int)).toNat).2) else -1) ∧ (if (pgT rw_ fr (cd).toNat (rw_ (3 : Int)).toNat).2 (0 : Int) = 1 then qenvy ((pgT rw_ fr (cd).toNat (rw_ (3 : Int)).toNat).2) else -1) ≤ 2147483647)) ∧ (((if (pgT rw_ fr (cd).toNat (rw_ (3 : Int)).toNat).2 (0 : Int) = 1 then qenvy ((pgT rw_ fr (cd).toNat (rw_ (3 : Int)).toNat).2) else -1) = 0 → xR d 237 es_237 35 [xr (some 101), xi fr, xi co, xi cd, xi (0 : Int)] [] (xsc (xsc (xsc I 101 (xup (I 101) (31 : Int) fm)) 111 ((pgT rw_ fr (cd).toNat (rw_ (3 : Int)).toNat).2)) 116 fn_) L (gG D) 0 0 post) ∧ (¬ (if (pgT rw_ fr (cd).toNat (rw_ (3 : Int)).toNat).2 (0 : Int) = 1 then qenvy ((pgT rw_ fr (cd).toNat (rw_ (3 : Int)).toNat).2) else -1) = 0 → xR d 237 es_237 22 [xr (some 101), xi fr, xi co, xi (cd + (1 : Int)), x4] [] (xsc (xsc (xsc I 101 (xup (I 101) (31 : Int) fm)) 111 ((pgT rw_ fr (cd).toNat (rw_ (3 : Int)).toNat).2)) 116 fn_) L (gG D) 0 0 post))))))))) : xR d 237 es_237 22 [xr (some 101), xi fr, xi co, xi cd, x4] [] (xsc (xsc (xsc I 101 (xup (I 101) (31 : Int) fm)) 111 rw_) 116 fn_) L (gG D) 0 0 post := sg_237_22  (⟨⟨h.1.1, h.1.2⟩, ⟨fun q2954 => (h.2.1 q2954), fun q2955 => (xR_cF rfl rfl rfl (c_236 (h.2.2 q2955).1) (by omega) (sg_237_29  (xR_cF rfl rfl rfl (c_225 (h.2.2 q2955).2.1) (by omega) (sg_237_31  ⟨(h.2.2 q2955).2.2.1, ⟨fun q2952 => (xR_memc ((h.2.2 q2955).2.2.2.1 q2952) (funext fun i => (xpt rfl (fun h116_ => (xpt rfl (fun h111_ => (xpt rfl (fun h101_ => (by simp only [xsc_ne _ _ h101_, xwr_ne _ _ _ h101_, xsc_ne _ _ h111_, xwr_ne _ _ _ h111_, xsc_ne _ _ h116_, xwr_ne _ _ _ h116_])))))))) rfl), fun q2953 => (xR_memc ((h.2.2 q2955).2.2.2.2 q2953) (funext fun i => (xpt rfl (fun h116_ => (xpt rfl (fun h111_ => (xpt rfl (fun h101_ => (by simp only [xsc_ne _ _ h101_, xwr_ne _ _ _ h101_, xsc_ne _ _ h111_, xwr_ne _ _ _ h111_, xsc_ne _ _ h116_, xwr_ne _ _ _ h116_])))))))) rfl)⟩⟩))))⟩⟩)
set_option maxRecDepth 8000 in
theorem sg_237_35 {d : Nat} {I : XI} {L : XL} {D : GD} {post : XQ}  {u1 : Int} {u2 : Int} {u3 : Int} {u4 : Int} (h : ((0 ≤ (3 : Int) ∧ (3 : Int) < (102 : Int)) ∧ (((-2147483648 ≤ u4 ∧ u4 ≤ 2147483647) ∧ (-2147483648 ≤ (I 111 (3 : Int)) ∧ (I 111 (3 : Int)) ≤ 2147483647)) ∧ (((I 111 (3 : Int)) ≤ u4 → xR d 237 es_237 22 [xr (some 101), xi u1, xi u2, xi (u3 + (1 : Int)), xi u4] [] (xwr I 101 (31 : Int) ((I 101 (31 : Int)) + (1 : Int))) L (gG D) 0 0 post) ∧ (u4 < (I 111 (3 : Int)) → ((-2147483648 ≤ (I 101 (31 : Int)) ∧ (I 101 (31 : Int)) ≤ 2147483647) ∧ ((¬ (I 101 (31 : Int)) = 0 → xR d 237 es_237 22 [xr (some 101), xi u1, xi u2, xi (u3 + (1 : Int)), xi u4] [] (xwr I 101 (31 : Int) ((I 101 (31 : Int)) + (1 : Int))) L (gG D) 0 0 post) ∧ ((I 101 (31 : Int)) = 0 → ((0 ≤ ((11 : Int) + u4) ∧ ((11 : Int) + u4) < (102 : Int)) ∧ ((0 ≤ u4 ∧ u4 < (11 : Int)) ∧ xR d 237 es_237 35 [xr (some 101), xi u1, xi u2, xi u3, xi (u4 + (1 : Int))] [] (xwr I 116 u4 (I 111 ((11 : Int) + u4))) L (gG D) 0 0 post)))))))))) : xR d 237 es_237 35 [xr (some 101), xi u1, xi u2, xi u3, xi u4] [] I L (gG D) 0 0 post := xW_R (fun k => Nat.beq k 4 || Nat.beq k 6 || Nat.beq k 22 || Nat.beq k 28 || Nat.beq k 30 || Nat.beq k 35) 21 _ _ _ _ _ _ _ _ _ _ _ _ h
set_option maxRecDepth 8000 in
theorem b_237c {d : Nat} {I : XI} {L : XL} {D : GD} {post : XQ} {fm : Int} {rw_ fn_ : Int → Int}  {fr : Int} {co : Int} {cd : Int} {s : Int} (hd : 0 ≤ d) (h : (((-2147483648 ≤ s ∧ s ≤ 2147483647) ∧ (-2147483648 ≤ (rw_ (3 : Int)) ∧ (rw_ (3 : Int)) ≤ 2147483647)) ∧ (((rw_ (3 : Int)) ≤ s → xR d 237 es_237 22 [xr (some 101), xi fr, xi co, xi (cd + (1 : Int)), xi s] [] (xsc (xsc (xsc I 101 (xup (I 101) (31 : Int) (fm + (1 : Int)))) 111 rw_) 116 fn_) L (gG D) 0 0 post) ∧ (s < (rw_ (3 : Int)) → (((-2147483648 ≤ fm ∧ fm ≤ 2147483647)) ∧ ((¬ fm = 0 → xR d 237 es_237 22 [xr (some 101), xi fr, xi co, xi (cd + (1 : Int)), xi s] [] (xsc (xsc (xsc I 101 (xup (I 101) (31 : Int) (fm + (1 : Int)))) 111 rw_) 116 fn_) L (gG D) 0 0 post) ∧ (fm = 0 → (((0 ≤ ((11 : Int) + s) ∧ ((11 : Int) + s) < (102 : Int))) ∧ (((0 ≤ s ∧ s < (11 : Int))) ∧ xR d 237 es_237 35 [xr (some 101), xi fr, xi co, xi cd, xi (s + (1 : Int))] [] (xsc (xsc (xsc I 101 (xup (I 101) (31 : Int) fm)) 111 rw_) 116 (xup fn_ s (rw_ ((11 : Int) + s)))) L (gG D) 0 0 post))))))))) : xR d 237 es_237 35 [xr (some 101), xi fr, xi co, xi cd, xi s] [] (xsc (xsc (xsc I 101 (xup (I 101) (31 : Int) fm)) 111 rw_) 116 fn_) L (gG D) 0 0 post := sg_237_35  (⟨(by decide), ⟨⟨h.1.1, h.1.2⟩, ⟨fun q2958 => (xR_memc (h.2.1 q2958) (funext fun i => (xpt rfl (fun h116_ => (xpt rfl (fun h111_ => (xpt (show (xup (xup (I 101) (31 : Int) fm) (31 : Int) (fm + (1 : Int))) = (xup (I 101) (31 : Int) (fm + (1 : Int))) from by funext j; simp only [xup]; (repeat' split) <;> first | rfl | omega) (fun h101_ => (by simp only [xsc_ne _ _ h101_, xwr_ne _ _ _ h101_, xsc_ne _ _ h111_, xwr_ne _ _ _ h111_, xsc_ne _ _ h116_, xwr_ne _ _ _ h116_])))))))) rfl), fun q2959 => ⟨(h.2.2 q2959).1, ⟨fun q2956 => (xR_memc ((h.2.2 q2959).2.1 q2956) (funext fun i => (xpt rfl (fun h116_ => (xpt rfl (fun h111_ => (xpt (show (xup (xup (I 101) (31 : Int) fm) (31 : Int) (fm + (1 : Int))) = (xup (I 101) (31 : Int) (fm + (1 : Int))) from by funext j; simp only [xup]; (repeat' split) <;> first | rfl | omega) (fun h101_ => (by simp only [xsc_ne _ _ h101_, xwr_ne _ _ _ h101_, xsc_ne _ _ h111_, xwr_ne _ _ _ h111_, xsc_ne _ _ h116_, xwr_ne _ _ _ h116_])))))))) rfl), fun q2957 => ⟨((h.2.2 q2959).2.2 q2957).1, ⟨((h.2.2 q2959).2.2 q2957).2.1, (xR_memc ((h.2.2 q2959).2.2 q2957).2.2 (funext fun i => (xpt rfl (fun h116_ => (xpt rfl (fun h111_ => (xpt rfl (fun h101_ => (by simp only [xsc_ne _ _ h101_, xwr_ne _ _ _ h101_, xsc_ne _ _ h111_, xwr_ne _ _ _ h111_, xsc_ne _ _ h116_, xwr_ne _ _ _ h116_])))))))) rfl)⟩⟩⟩⟩⟩⟩⟩)
theorem lp_237c {I : XI} {L : XL} {D : GD} {d : Nat} {post : XQ} {fr co cd fm : Int} {R fn_ : Int → Int} (h3 : 0 ≤ R 3 ∧ R 3 ≤ 10) (hfm : -1 ≤ fm ∧ fm ≤ 1000000) (hc : ∀ (x4 : XV) (f2 : Int → Int), (fm = 0 → ∀ s, 0 ≤ s → s < R 3 → f2 s = R (11 + s)) → (¬ fm = 0 → f2 = fn_) → xR d 237 es_237 22 [xr (some 101), xi fr, xi co, xi (cd + 1), x4] [] (xsc (xsc (xsc I 101 (xup (I 101) (31 : Int) (fm + 1))) 111 R) 116 f2) L (gG D) 0 0 post) : xR d 237 es_237 35 [xr (some 101), xi fr, xi co, xi cd, xi 0] [] (xsc (xsc (xsc I 101 (xup (I 101) (31 : Int) fm)) 111 R) 116 fn_) L (gG D) 0 0 post := by
  by_cases q : fm = 0
  · have key : ∀ k : Nat, k ≤ (R 3).toNat → ∀ f2 : Int → Int, (∀ s, 0 ≤ s → s < (k : Int) → f2 s = R (11 + s)) → xR d 237 es_237 35 [xr (some 101), xi fr, xi co, xi cd, xi (k : Int)] [] (xsc (xsc (xsc I 101 (xup (I 101) (31 : Int) fm)) 111 R) 116 f2) L (gG D) 0 0 post := by
      refine xfor ?_ ?_
      · intro f2 hf
        refine b_237c (by omega) ?_
        repeat' first | (with_reducible intro _) | (with_reducible refine And.intro ?_ ?_)
        all_goals first | omega | skip
        exact hc _ _ (fun _ s s0 s1 => hf s s0 (by omega)) (fun q2 => absurd q q2)
      · intro k hk ih f2 hf
        refine b_237c (by omega) ?_
        repeat' first | (with_reducible intro _) | (with_reducible refine And.intro ?_ ?_)
        all_goals first | omega | skip
        refine ih _ (fun s s0 s1 => ?_)
        by_cases qs : s = (k : Int)
        · rw [qs, xup_same]
        · rw [xup_ne _ _ qs]; exact hf s s0 (by omega)
    exact key 0 (Nat.zero_le _) fn_ (fun s s0 s1 => by omega)
  · refine b_237c (by omega) ?_
    repeat' first | (with_reducible intro _) | (with_reducible refine And.intro ?_ ?_)
    all_goals first | omega | exact hc _ _ (fun q2 => absurd q2 q) (fun _ => rfl)
theorem pcodes_le {a : Int → Int} {fr : Int} (h : SO a) (hb : pbits fr ≤ 6) : pcodes a fr ≤ 15625 := by
  have hg := h.g
  unfold pcodes
  calc (a 4).toNat ^ (pbits fr).toNat ≤ 5 ^ (pbits fr).toNat := Nat.pow_le_pow_left (by omega) _
    _ ≤ 5 ^ 6 := Nat.pow_le_pow_right (by decide) (by omega)
/-- the bits, from the lowest -/
def cbn (x : Nat) : Nat → Nat
  | 0 => 0
  | n + 1 => cbn x n + x / 2 ^ n % 2
theorem pbn_cbn (x : Nat) : pbn x = cbn x 10 := rfl
theorem cbn_pos {x i : Nat} (h : x / 2 ^ i % 2 = 1) : ∀ n, i < n → 0 < cbn x n := by
  intro n
  induction n with
  | zero => intro h; omega
  | succ n ih =>
    intro hi
    unfold cbn
    by_cases q : i = n
    · subst q; omega
    · have := ih (by omega); omega
theorem bit_pos {fr : Int} (h0 : 0 ≤ fr) (h1 : fr < 1024) {n : Nat} (hn : n < 10) (hb : xand (xshr fr (n : Int)) 1 = 1) : 0 < pbits fr := by
  rw [show fr = ((fr.toNat : Nat) : Int) by omega, xbit _ _ (by omega) (by omega)] at hb
  by_cases q : fr.toNat.testBit n
  · rw [Nat.testBit_eq_decide_div_mod_eq, decide_eq_true_eq] at q
    have := cbn_pos q 10 hn
    unfold pbits
    rw [pbn_cbn]
    omega
  · rw [if_neg q] at hb; exact absurd hb (by decide)
theorem c_237 {I : XI} {L : XL} {D : GD}   {fr : Int} (h : (SO (I 111) ∧ I 111 (0 : Int) = 1 ∧ fr = pslices (I 111) (-1) ∧ pbits fr ≤ 6)) : xM 5 237 [xr (some 101), xi fr] I L (gG D) (0, 0) (fun r2 I2 L2 G2 => ∃ (rw2 : Int → Int) (fn2 : Int → Int), (Agr (I 111) rw2 ∧ (¬ (pfa (I 111) fr (pcodes (I 111) fr)).1 = 0 → ∀ s, 0 ≤ s → s < I 111 (3 : Int) → fn2 s = (pfa (I 111) fr (pcodes (I 111) fr)).2 (11 + s))) ∧ r2 = none ∧ I2 = (xsc (xsc (xsc I 101 (xup (I 101) (31 : Int) ((pfa (I 111) fr (pcodes (I 111) fr)).1))) 111 rw2) 116 fn2) ∧ L2 = L ∧ G2 = (gG D)) := by
  intro d hd
  obtain ⟨hS, h0, h1, h2⟩ := h
  have hn := hS.n
  have hg := hS.g
  have hb := pslices_rg hS (-1)
  rw [← h1] at hb
  have hb2 := pbits_rg hb.1 hb.2
  have hcl := pcodes_le hS h2
  have hz : 0 < pcodes (I 111) fr → (∀ n : Nat, (n : Int) < I 111 (3 : Int) → xand (xshr fr (n : Int)) 1 = 1 → 0 < I 111 (4 : Int)) := by
    intro q n h3 h4
    have hp := bit_pos hb.1 hb.2 (n := n) (by omega) h4
    refine Classical.byContradiction fun q2 => ?_
    have e0 : (I 111 4).toNat = 0 := by omega
    unfold pcodes at q
    rw [e0, Nat.zero_pow (by omega)] at q
    omega
  refine w_237 (by omega) ?_
  have keyb : ∀ k : Nat, k ≤ (pcodes (I 111) fr) → ∀ (x4 : XV) (rw_ : Int → Int) (fn_ : Int → Int), (Fra (I 111) rw_ fr ∧ SO rw_ ∧ (¬ (pfa (I 111) fr k).1 = 0 → ∀ s, 0 ≤ s → s < I 111 3 → fn_ s = (pfa (I 111) fr k).2 (11 + s))) → xR d 237 es_237 22 [xr (some 101), xi fr, xi ((pcodes (I 111) fr : Nat) : Int), xi (k : Int), x4] [] (xsc (xsc (xsc I 101 (xup (I 101) (31 : Int) ((pfa (I 111) fr k).1))) 111 rw_) 116 fn_) L (gG D) 0 0 (fun r2 I2 L2 G2 => ∃ (rw2 : Int → Int) (fn2 : Int → Int), (Agr (I 111) rw2 ∧ (¬ (pfa (I 111) fr (pcodes (I 111) fr)).1 = 0 → ∀ s, 0 ≤ s → s < I 111 (3 : Int) → fn2 s = (pfa (I 111) fr (pcodes (I 111) fr)).2 (11 + s))) ∧ r2 = none ∧ I2 = (xsc (xsc (xsc I 101 (xup (I 101) (31 : Int) ((pfa (I 111) fr (pcodes (I 111) fr)).1))) 111 rw2) 116 fn2) ∧ L2 = L ∧ G2 = (gG D)) := by
    refine xfor ?_ ?_
    · intro x4 rw_ fn_ hy
      refine b_237b (by omega) ?_
      repeat' first | (with_reducible intro _) | (with_reducible refine And.intro ?_ ?_)
      all_goals first | omega | assumption | skip
      exact ⟨_, _, ⟨hy.1.agr hS, hy.2.2⟩, rfl, rfl, rfl, rfl⟩
    · intro k hk ih x4 rw_ fn_ hy
      obtain ⟨hy1, hSw, hy2⟩ := hy
      have hA := hy1.agr hS
      have e3 : rw_ 3 = I 111 3 := hA 3 (by omega)
      have e4 : rw_ 4 = I 111 4 := hA 4 (by omega)
      have hzz := hz (by omega)
      obtain ⟨hp1, hp2, hp3⟩ := pgT_so (c := k) hS hzz (I 111 3).toNat (Nat.le_refl _)
      have hkp := pgT_keep (fr := fr) (c := k) hS (I 111 3).toNat (Nat.le_refl _)
      have eR : (pgT rw_ fr k (rw_ 3).toNat).2 = (pgT (I 111) fr k (I 111 3).toNat).2 := pgT_eq hy1 hS
      have e0R : (pgT (I 111) fr k (I 111 3).toNat).2 0 = 1 := by rw [hp2 0 (by omega)]; exact h0
      have e3R : (pgT (I 111) fr k (I 111 3).toNat).2 3 = I 111 3 := hp2 3 (by omega)
      have hqr := qenvy_rg hp1
      have hfr := pfa_rg (I 111) fr k
      have e : pfa (I 111) fr (k + 1) = if qenvy (pgT (I 111) fr k (I 111 3).toNat).2 = 0 then ((pfa (I 111) fr k).1 + 1, if (pfa (I 111) fr k).1 = 0 then (pgT (I 111) fr k (I 111 3).toNat).2 else (pfa (I 111) fr k).2) else pfa (I 111) fr k := rfl
      have hz2 : ∀ n : Nat, (n : Int) < rw_ 3 → xand (xshr fr (n : Int)) 1 = 1 → 0 < rw_ 4 := by rw [e3, e4]; exact hzz
      refine b_237b (by omega) ?_
      simp only [Int.toNat_natCast, eR, if_pos e0R]
      repeat' first | (with_reducible intro _) | (with_reducible refine And.intro ?_ ?_)
      all_goals first | omega | assumption | skip
      all_goals first
        | (exact ⟨hSw, by omega, hz2⟩)
        | (exact hp1)
        | (exact hz2 _ (by assumption) (by assumption))
        | (refine lp_237c ?_ ?_ ?_
           · omega
           · omega
           intro x9 f2 q1 q2
           rw [if_pos (by assumption)] at e
           rw [e] at ih
           refine ih _ _ _ ⟨hkp, hp1, fun _ s s0 s1 => ?_⟩
           show f2 s = (if (pfa (I 111) fr k).1 = 0 then (pgT (I 111) fr k (I 111 3).toNat).2 else (pfa (I 111) fr k).2) (11 + s)
           by_cases q : (pfa (I 111) fr k).1 = 0
           · rw [if_pos q]; exact q1 q s s0 (by omega)
           · rw [if_neg q, q2 q]; exact hy2 q s s0 s1)
        | (rw [if_neg (by assumption)] at e
           rw [e] at ih
           exact ih _ _ _ ⟨hkp, hp1, hy2⟩)
  have keya : ∀ k : Nat, k ≤ (pbits fr).toNat → ∀ (x4 : XV), xR d 237 es_237 4 [xr (some 101), xi fr, xi (((I 111 4).toNat ^ k : Nat) : Int), xi (k : Int), x4] [] I L (gG D) 0 0 (fun r2 I2 L2 G2 => ∃ (rw2 : Int → Int) (fn2 : Int → Int), (Agr (I 111) rw2 ∧ (¬ (pfa (I 111) fr (pcodes (I 111) fr)).1 = 0 → ∀ s, 0 ≤ s → s < I 111 (3 : Int) → fn2 s = (pfa (I 111) fr (pcodes (I 111) fr)).2 (11 + s))) ∧ r2 = none ∧ I2 = (xsc (xsc (xsc I 101 (xup (I 101) (31 : Int) ((pfa (I 111) fr (pcodes (I 111) fr)).1))) 111 rw2) 116 fn2) ∧ L2 = L ∧ G2 = (gG D)) := by
    refine xfor ?_ ?_
    · intro x4
      refine b_237a (by omega) ?_
      repeat' first | (with_reducible intro _) | (with_reducible refine And.intro ?_ ?_)
      all_goals first | omega | assumption | skip
      refine xR_memc (keyb 0 (Nat.zero_le _) x4 (I 111) (I 116) ⟨fun _ _ => rfl, hS, fun q => absurd rfl q⟩) ?_ rfl
      (funext i; by_cases h101 : i = 101; (subst h101; first | rfl | exact (xcp_zero _ _ _ _).symm | exact (xup_self _ _).symm | exact (xup_self2 _ _ _).symm | exact (xup_self3 _ _ _ _).symm | exact xup_self _ _); by_cases h111 : i = 111; (subst h111; first | rfl | exact (xcp_zero _ _ _ _).symm | exact (xup_self _ _).symm | exact (xup_self2 _ _ _).symm | exact (xup_self3 _ _ _ _).symm | exact xup_self _ _); by_cases h116 : i = 116; (subst h116; first | rfl | exact (xcp_zero _ _ _ _).symm | exact (xup_self _ _).symm | exact (xup_self2 _ _ _).symm | exact (xup_self3 _ _ _ _).symm | exact xup_self _ _); first | rfl | simp only [xsc_ne _ _ h101, xsc_ne _ _ h111, xsc_ne _ _ h116])
    · intro k hk ih x4
      have epw : (((I 111 4).toNat ^ (k + 1) : Nat) : Int) = (((I 111 4).toNat ^ k : Nat) : Int) * I 111 4 := by
        rw [Nat.pow_succ, Int.natCast_mul]; congr 1; omega
      rw [epw, show ((k + 1 : Nat) : Int) = (k : Int) + 1 by omega] at ih
      refine b_237a (by omega) ?_
      repeat' first | (with_reducible intro _) | (with_reducible refine And.intro ?_ ?_)
      all_goals first | omega | assumption | skip
      exact ih _
  exact keya 0 (Nat.zero_le _) _
def qfair (a : Int → Int) (what : Int) : Int := if what = -1 then (pfa a (pslices a (-1)) (pcodes a (pslices a (-1)))).1 else if (pfa a (pslices a (-1)) (pcodes a (pslices a (-1)))).1 = 0 ∨ ¬ (0 ≤ what ∧ what < a 3) ∨ ¬ xand (xshr (pslices a (-1)) what) 1 = 1 then -2 else (pfa a (pslices a (-1)) (pcodes a (pslices a (-1)))).2 (11 + what)
set_option maxRecDepth 8000 in
theorem sg_238_0 {d : Nat} {I : XI} {L : XL} {D : GD} {post : XQ}  {u1 : Int} (h : xR d 238 es_238 1 [xr (some 101), xi u1, xt 0] [xr (some 101)] I L (gG D) 0 0 post) : xR d 238 es_238 0 [xr (some 101), xi u1, xt 0] [] I L (gG D) 0 0 post := xW_R (fun k => Nat.beq k 1 || Nat.beq k 7 || Nat.beq k 13 || Nat.beq k 16 || Nat.beq k 22 || Nat.beq k 25 || Nat.beq k 27 || Nat.beq k 39 || Nat.beq k 43) 1 _ _ _ _ _ _ _ _ _ _ _ _ h
set_option maxRecDepth 8000 in
theorem sg_238_2 {d : Nat} {I : XI} {L : XL} {D : GD} {post : XQ}  {u1 : Int} {w0 : Int} (h : ((-2147483648 ≤ w0 ∧ w0 ≤ 2147483647) ∧ ((w0 = 0 → post (some (xi (-3 : Int))) I L (gG D)) ∧ (¬ w0 = 0 → ((-2147483648 ≤ u1 ∧ u1 ≤ 2147483647) ∧ xR d 238 es_238 7 [xr (some 101), xi u1, xt 0] [xl (Int64.ofInt 9), xl (Int64.ofInt (-1)), xl (Int64.ofInt u1)] I L (gG D) 0 0 post))))) : xR d 238 es_238 2 [xr (some 101), xi u1, xt 0] [xi w0] I L (gG D) 0 0 post := xW_R (fun k => Nat.beq k 1 || Nat.beq k 7 || Nat.beq k 13 || Nat.beq k 16 || Nat.beq k 22 || Nat.beq k 25 || Nat.beq k 27 || Nat.beq k 39 || Nat.beq k 43) 5 _ _ _ _ _ _ _ _ _ _ _ _ h
set_option maxRecDepth 8000 in
theorem sg_238_8 {d : Nat} {I : XI} {L : XL} {D : GD} {post : XQ}  {u1 : Int} {w0 : Int} (h : ((-2147483648 ≤ w0 ∧ w0 ≤ 2147483647) ∧ ((¬ w0 = 0 → xR d 238 es_238 13 [xr (some 101), xi u1, xt 0] [xi (-1 : Int), xr (some 101)] I L (gG D) 0 0 post) ∧ (w0 = 0 → post (some (xi (-3 : Int))) I L (gG D))))) : xR d 238 es_238 8 [xr (some 101), xi u1, xt 0] [xi w0] I L (gG D) 0 0 post := xW_R (fun k => Nat.beq k 1 || Nat.beq k 7 || Nat.beq k 13 || Nat.beq k 16 || Nat.beq k 22 || Nat.beq k 25 || Nat.beq k 27 || Nat.beq k 39 || Nat.beq k 43) 3 _ _ _ _ _ _ _ _ _ _ _ _ h
set_option maxRecDepth 8000 in
theorem sg_238_14 {d : Nat} {I : XI} {L : XL} {D : GD} {post : XQ}  {u1 : Int} {w0 : Int} (h : xR d 238 es_238 16 [xr (some 101), xi u1, xi w0] [xi w0] I L (gG D) 0 0 post) : xR d 238 es_238 14 [xr (some 101), xi u1, xt 0] [xi w0] I L (gG D) 0 0 post := xW_R (fun k => Nat.beq k 1 || Nat.beq k 7 || Nat.beq k 13 || Nat.beq k 16 || Nat.beq k 22 || Nat.beq k 25 || Nat.beq k 27 || Nat.beq k 39 || Nat.beq k 43) 2 _ _ _ _ _ _ _ _ _ _ _ _ h
set_option maxRecDepth 8000 in
theorem sg_238_17 {d : Nat} {I : XI} {L : XL} {D : GD} {post : XQ}  {u1 : Int} {u2 : Int} {w0 : Int} (h : (((-2147483648 ≤ w0 ∧ w0 ≤ 2147483647) ∧ (-2147483648 ≤ (6 : Int) ∧ (6 : Int) ≤ 2147483647)) ∧ ((w0 ≤ (6 : Int) → xR d 238 es_238 22 [xr (some 101), xi u1, xi u2] [xr (some 101)] I L (gG D) 0 0 post) ∧ ((6 : Int) < w0 → post (some (xi (-3 : Int))) I L (gG D))))) : xR d 238 es_238 17 [xr (some 101), xi u1, xi u2] [xi w0] I L (gG D) 0 0 post := xW_R (fun k => Nat.beq k 1 || Nat.beq k 7 || Nat.beq k 13 || Nat.beq k 16 || Nat.beq k 22 || Nat.beq k 25 || Nat.beq k 27 || Nat.beq k 39 || Nat.beq k 43) 4 _ _ _ _ _ _ _ _ _ _ _ _ h
set_option maxRecDepth 8000 in
theorem sg_238_23 {d : Nat} {I : XI} {L : XL} {D : GD} {post : XQ}  {u1 : Int} {u2 : Int} (h : xR d 238 es_238 25 [xr (some 101), xi u1, xi u2] [xi u2, xr (some 101)] I L (gG D) 0 0 post) : xR d 238 es_238 23 [xr (some 101), xi u1, xi u2] [] I L (gG D) 0 0 post := xW_R (fun k => Nat.beq k 1 || Nat.beq k 7 || Nat.beq k 13 || Nat.beq k 16 || Nat.beq k 22 || Nat.beq k 25 || Nat.beq k 27 || Nat.beq k 39 || Nat.beq k 43) 2 _ _ _ _ _ _ _ _ _ _ _ _ h
set_option maxRecDepth 8000 in
theorem sg_238_26 {d : Nat} {I : XI} {L : XL} {D : GD} {post : XQ}  {u1 : Int} {u2 : Int} (h : xR d 238 es_238 27 [xr (some 101), xi u1, xi u2] [xr (some 101)] I L (gG D) 0 0 post) : xR d 238 es_238 26 [xr (some 101), xi u1, xi u2] [] I L (gG D) 0 0 post := xW_R (fun k => Nat.beq k 1 || Nat.beq k 7 || Nat.beq k 13 || Nat.beq k 16 || Nat.beq k 22 || Nat.beq k 25 || Nat.beq k 27 || Nat.beq k 39 || Nat.beq k 43) 1 _ _ _ _ _ _ _ _ _ _ _ _ h
set_option maxRecDepth 8000 in
theorem sg_238_28 {d : Nat} {I : XI} {L : XL} {D : GD} {post : XQ}  {u1 : Int} {u2 : Int} (h : (((-2147483648 ≤ u1 ∧ u1 ≤ 2147483647) ∧ (-2147483648 ≤ (-1 : Int) ∧ (-1 : Int) ≤ 2147483647)) ∧ ((¬ u1 = (-1 : Int) → ((-2147483648 ≤ (I 101 (31 : Int)) ∧ (I 101 (31 : Int)) ≤ 2147483647) ∧ (((I 101 (31 : Int)) = 0 → post (some (xi (-2 : Int))) I L (gG D)) ∧ (¬ (I 101 (31 : Int)) = 0 → xR d 238 es_238 39 [xr (some 101), xi u1, xi u2] [xi u1, xr (some 101)] I L (gG D) 0 0 post)))) ∧ (u1 = (-1 : Int) → post (some (xi (I 101 (31 : Int)))) I L (gG D))))) : xR d 238 es_238 28 [xr (some 101), xi u1, xi u2] [] I L (gG D) 0 0 post := xW_R (fun k => Nat.beq k 1 || Nat.beq k 7 || Nat.beq k 13 || Nat.beq k 16 || Nat.beq k 22 || Nat.beq k 25 || Nat.beq k 27 || Nat.beq k 39 || Nat.beq k 43) 9 _ _ _ _ _ _ _ _ _ _ _ _ h
set_option maxRecDepth 8000 in
theorem sg_238_40 {d : Nat} {I : XI} {L : XL} {D : GD} {post : XQ}  {u1 : Int} {u2 : Int} {w0 : Int} (h : ((-2147483648 ≤ w0 ∧ w0 ≤ 2147483647) ∧ ((w0 = 0 → post (some (xi (-2 : Int))) I L (gG D)) ∧ (¬ w0 = 0 → xR d 238 es_238 43 [xr (some 101), xi u1, xi u2] [xi u1, xi u2] I L (gG D) 0 0 post)))) : xR d 238 es_238 40 [xr (some 101), xi u1, xi u2] [xi w0] I L (gG D) 0 0 post := xW_R (fun k => Nat.beq k 1 || Nat.beq k 7 || Nat.beq k 13 || Nat.beq k 16 || Nat.beq k 22 || Nat.beq k 25 || Nat.beq k 27 || Nat.beq k 39 || Nat.beq k 43) 4 _ _ _ _ _ _ _ _ _ _ _ _ h
set_option maxRecDepth 8000 in
theorem sg_238_44 {d : Nat} {I : XI} {L : XL} {D : GD} {post : XQ}  {u1 : Int} {u2 : Int} {w0 : Int} (h : ((-2147483648 ≤ w0 ∧ w0 ≤ 2147483647) ∧ ((¬ w0 = 0 → ((0 ≤ u1 ∧ u1 < (11 : Int)) ∧ post (some (xi (I 116 u1))) I L (gG D))) ∧ (w0 = 0 → post (some (xi (-2 : Int))) I L (gG D))))) : xR d 238 es_238 44 [xr (some 101), xi u1, xi u2] [xi w0] I L (gG D) 0 0 post := xW_R (fun k => Nat.beq k 1 || Nat.beq k 7 || Nat.beq k 13 || Nat.beq k 16 || Nat.beq k 22 || Nat.beq k 25 || Nat.beq k 27 || Nat.beq k 39 || Nat.beq k 43) 6 _ _ _ _ _ _ _ _ _ _ _ _ h
set_option maxRecDepth 8000 in
theorem w_238 {d : Nat} {I : XI} {L : XL} {D : GD} {post : XQ}   {what : Int} (hd : 6 ≤ d) (h : (SO (I 111) ∧ (((¬ (I 111 (0 : Int) = 1) → post (some (xi (-3 : Int))) I L (gG D)) ∧ (I 111 (0 : Int) = 1 → (((-2147483648 ≤ what ∧ what ≤ 2147483647)) ∧ (((-2147483648 ≤ what ∧ what ≤ 2147483647) ∧ (-2147483648 ≤ (-1) ∧ (-1) ≤ 2147483647) ∧ (-2147483648 ≤ (9 : Int) ∧ (9 : Int) ≤ 2147483647)) ∧ ((((-1) ≤ what ∧ what ≤ (9 : Int) → ((SO (I 111) ∧ (-2147483648 ≤ (-1 : Int) ∧ (-1 : Int) ≤ 2147483647)) ∧ ((0 ≤ (pslices (I 111) (-1 : Int)) ∧ (pslices (I 111) (-1 : Int)) < 1024) ∧ (((-2147483648 ≤ (pbits (pslices (I 111) (-1 : Int))) ∧ (pbits (pslices (I 111) (-1 : Int))) ≤ 2147483647)) ∧ (((pbits (pslices (I 111) (-1 : Int))) ≤ (6 : Int) → ((SO (I 111) ∧ I 111 (0 : Int) = 1 ∧ (pslices (I 111) (-1 : Int)) = pslices (I 111) (-1) ∧ pbits (pslices (I 111) (-1 : Int)) ≤ 6) ∧ (∀ (e2960 : Int → Int) (e2961 : Int → Int), ((Agr (I 111) e2960 ∧ (¬ (pfa (I 111) (pslices (I 111) (-1 : Int)) (pcodes (I 111) (pslices (I 111) (-1 : Int)))).1 = 0 → ∀ s, 0 ≤ s → s < I 111 (3 : Int) → e2961 s = (pfa (I 111) (pslices (I 111) (-1 : Int)) (pcodes (I 111) (pslices (I 111) (-1 : Int)))).2 (11 + s))) → (((¬ what = (-1 : Int) → (((-2147483648 ≤ ((pfa (I 111) (pslices (I 111) (-1 : Int)) (pcodes (I 111) (pslices (I 111) (-1 : Int)))).1) ∧ ((pfa (I 111) (pslices (I 111) (-1 : Int)) (pcodes (I 111) (pslices (I 111) (-1 : Int)))).1) ≤ 2147483647)) ∧ ((((pfa (I 111) (pslices (I 111) (-1 : Int)) (pcodes (I 111) (pslices (I 111) (-1 : Int)))).1) = 0 → post (some (xi (-2 : Int))) (xsc (xsc (xsc (xsc I 101 (xup (I 101) (31 : Int) ((pfa (I 111) (pslices (I 111) (-1 : Int)) (pcodes (I 111) (pslices (I 111) (-1 : Int)))).1))) 111 (xcp (xcp (I 111) (I 113) 10 0 16) e2960 0 10 16)) 113 (xcp (I 111) (I 113) 10 0 16)) 116 e2961) L (gG D)) ∧ (¬ ((pfa (I 111) (pslices (I 111) (-1 : Int)) (pcodes (I 111) (pslices (I 111) (-1 : Int)))).1) = 0 → ((SO (xcp (xcp (I 111) (I 113) 10 0 16) e2960 0 10 16) ∧ (-2147483648 ≤ what ∧ what ≤ 2147483647)) ∧ (((¬ (0 ≤ what ∧ what < xcp (xcp (I 111) (I 113) 10 0 16) e2960 0 10 16 (3 : Int)) → post (some (xi (-2 : Int))) (xsc (xsc (xsc (xsc I 101 (xup (I 101) (31 : Int) ((pfa (I 111) (pslices (I 111) (-1 : Int)) (pcodes (I 111) (pslices (I 111) (-1 : Int)))).1))) 111 (xcp (xcp (I 111) (I 113) 10 0 16) e2960 0 10 16)) 113 (xcp (I 111) (I 113) 10 0 16)) 116 e2961) L (gG D)) ∧ (0 ≤ what ∧ what < xcp (xcp (I 111) (I 113) 10 0 16) e2960 0 10 16 (3 : Int) → (((xand (xshr (pslices (I 111) (-1 : Int)) what) (1 : Int) = (1 : Int) → (((0 ≤ what ∧ what < (11 : Int))) ∧ post (some (xi (e2961 what))) (xsc (xsc (xsc (xsc I 101 (xup (I 101) (31 : Int) ((pfa (I 111) (pslices (I 111) (-1 : Int)) (pcodes (I 111) (pslices (I 111) (-1 : Int)))).1))) 111 (xcp (xcp (I 111) (I 113) 10 0 16) e2960 0 10 16)) 113 (xcp (I 111) (I 113) 10 0 16)) 116 e2961) L (gG D))) ∧ (¬ (xand (xshr (pslices (I 111) (-1 : Int)) what) (1 : Int) = (1 : Int)) → post (some (xi (-2 : Int))) (xsc (xsc (xsc (xsc I 101 (xup (I 101) (31 : Int) ((pfa (I 111) (pslices (I 111) (-1 : Int)) (pcodes (I 111) (pslices (I 111) (-1 : Int)))).1))) 111 (xcp (xcp (I 111) (I 113) 10 0 16) e2960 0 10 16)) 113 (xcp (I 111) (I 113) 10 0 16)) 116 e2961) L (gG D)))))))))))) ∧ (what = (-1 : Int) → post (some (xi ((pfa (I 111) (pslices (I 111) (-1 : Int)) (pcodes (I 111) (pslices (I 111) (-1 : Int)))).1))) (xsc (xsc (xsc (xsc I 101 (xup (I 101) (31 : Int) ((pfa (I 111) (pslices (I 111) (-1 : Int)) (pcodes (I 111) (pslices (I 111) (-1 : Int)))).1))) 111 (xcp (xcp (I 111) (I 113) 10 0 16) e2960 0 10 16)) 113 (xcp (I 111) (I 113) 10 0 16)) 116 e2961) L (gG D)))))))) ∧ ((6 : Int) < (pbits (pslices (I 111) (-1 : Int))) → post (some (xi (-3 : Int))) I L (gG D))))))) ∧ (¬ ((-1) ≤ what ∧ what ≤ (9 : Int)) → post (some (xi (-3 : Int))) I L (gG D))))))))))) : xR d 238 es_238 0 [xr (some 101), xi what, xt 0] [] I L (gG D) 0 0 post := sg_238_0  ((xR_cF rfl rfl rfl (c_192 h.1) (by omega) (sg_238_2  ⟨(xb_rg _), ⟨fun q2974 => (h.2.1 (xb_0 q2974)), fun q2975 => ⟨(h.2.2 (xb_n0 q2975)).1, (xR_cF rfl rfl rfl (c_147 (h.2.2 (xb_n0 q2975)).2.1) (by omega) (sg_238_8  ⟨(xb_rg _), ⟨fun q2972 => (xR_cF rfl rfl rfl (c_197 ((h.2.2 (xb_n0 q2975)).2.2.1 (xb_n0 q2972)).1) (by omega) (sg_238_14  (xR_cF rfl rfl rfl (c_149 ((h.2.2 (xb_n0 q2975)).2.2.1 (xb_n0 q2972)).2.1) (by omega) (sg_238_17  ⟨⟨((h.2.2 (xb_n0 q2975)).2.2.1 (xb_n0 q2972)).2.2.1, (by decide)⟩, ⟨fun q2970 => (xR_cF rfl rfl rfl c_220 (by omega) (sg_238_23  (xR_cQ rfl rfl rfl (c_237 (((h.2.2 (xb_n0 q2975)).2.2.1 (xb_n0 q2972)).2.2.2.1 q2970).1) (by omega) (fun _ _ _ _ hx2976 => by obtain ⟨e2960, e2961, hp2977, rfl, rfl, rfl, rfl⟩ := hx2976; exact (sg_238_26  (xR_cF rfl rfl rfl c_221 (by omega) (sg_238_28  ⟨⟨(h.2.2 (xb_n0 q2975)).1, (by decide)⟩, ⟨fun q2968 => ⟨(((((h.2.2 (xb_n0 q2975)).2.2.1 (xb_n0 q2972)).2.2.2.1 q2970).2 e2960 e2961 hp2977).1 q2968).1, ⟨fun q2966 => (xpost ((((((h.2.2 (xb_n0 q2975)).2.2.1 (xb_n0 q2972)).2.2.2.1 q2970).2 e2960 e2961 hp2977).1 q2968).2.1 q2966) (funext fun i => (xpt rfl (fun h116_ => (xpt rfl (fun h113_ => (xpt rfl (fun h111_ => (xpt rfl (fun h101_ => (by simp only [xsc_ne _ _ h101_, xwr_ne _ _ _ h101_, xsc_ne _ _ h111_, xwr_ne _ _ _ h111_, xsc_ne _ _ h113_, xwr_ne _ _ _ h113_, xsc_ne _ _ h116_, xwr_ne _ _ _ h116_])))))))))) rfl), fun q2967 => (xR_cF rfl rfl rfl (c_193 ((((((h.2.2 (xb_n0 q2975)).2.2.1 (xb_n0 q2972)).2.2.2.1 q2970).2 e2960 e2961 hp2977).1 q2968).2.2 q2967).1) (by omega) (sg_238_40  ⟨(xb_rg _), ⟨fun q2964 => (xpost (((((((h.2.2 (xb_n0 q2975)).2.2.1 (xb_n0 q2972)).2.2.2.1 q2970).2 e2960 e2961 hp2977).1 q2968).2.2 q2967).2.1 (xb_0 q2964)) (funext fun i => (xpt rfl (fun h116_ => (xpt rfl (fun h113_ => (xpt rfl (fun h111_ => (xpt rfl (fun h101_ => (by simp only [xsc_ne _ _ h101_, xwr_ne _ _ _ h101_, xsc_ne _ _ h111_, xwr_ne _ _ _ h111_, xsc_ne _ _ h113_, xwr_ne _ _ _ h113_, xsc_ne _ _ h116_, xwr_ne _ _ _ h116_])))))))))) rfl), fun q2965 => (xR_cF rfl rfl rfl c_148 (by omega) (sg_238_44  ⟨(xb_rg _), ⟨fun q2962 => ⟨((((((((h.2.2 (xb_n0 q2975)).2.2.1 (xb_n0 q2972)).2.2.2.1 q2970).2 e2960 e2961 hp2977).1 q2968).2.2 q2967).2.2 (xb_n0 q2965)).1 (xb_n0 q2962)).1, (xpost ((((((((h.2.2 (xb_n0 q2975)).2.2.1 (xb_n0 q2972)).2.2.2.1 q2970).2 e2960 e2961 hp2977).1 q2968).2.2 q2967).2.2 (xb_n0 q2965)).1 (xb_n0 q2962)).2 (funext fun i => (xpt rfl (fun h116_ => (xpt rfl (fun h113_ => (xpt rfl (fun h111_ => (xpt rfl (fun h101_ => (by simp only [xsc_ne _ _ h101_, xwr_ne _ _ _ h101_, xsc_ne _ _ h111_, xwr_ne _ _ _ h111_, xsc_ne _ _ h113_, xwr_ne _ _ _ h113_, xsc_ne _ _ h116_, xwr_ne _ _ _ h116_])))))))))) rfl)⟩, fun q2963 => (xpost ((((((((h.2.2 (xb_n0 q2975)).2.2.1 (xb_n0 q2972)).2.2.2.1 q2970).2 e2960 e2961 hp2977).1 q2968).2.2 q2967).2.2 (xb_n0 q2965)).2 (xb_0 q2963)) (funext fun i => (xpt rfl (fun h116_ => (xpt rfl (fun h113_ => (xpt rfl (fun h111_ => (xpt rfl (fun h101_ => (by simp only [xsc_ne _ _ h101_, xwr_ne _ _ _ h101_, xsc_ne _ _ h111_, xwr_ne _ _ _ h111_, xsc_ne _ _ h113_, xwr_ne _ _ _ h113_, xsc_ne _ _ h116_, xwr_ne _ _ _ h116_])))))))))) rfl)⟩⟩))⟩⟩))⟩⟩, fun q2969 => (xpost (((((h.2.2 (xb_n0 q2975)).2.2.1 (xb_n0 q2972)).2.2.2.1 q2970).2 e2960 e2961 hp2977).2 q2969) (funext fun i => (xpt rfl (fun h116_ => (xpt rfl (fun h113_ => (xpt rfl (fun h111_ => (xpt rfl (fun h101_ => (by simp only [xsc_ne _ _ h101_, xwr_ne _ _ _ h101_, xsc_ne _ _ h111_, xwr_ne _ _ _ h111_, xsc_ne _ _ h113_, xwr_ne _ _ _ h113_, xsc_ne _ _ h116_, xwr_ne _ _ _ h116_])))))))))) rfl)⟩⟩))))))), fun q2971 => (((h.2.2 (xb_n0 q2975)).2.2.1 (xb_n0 q2972)).2.2.2.2 q2971)⟩⟩)))), fun q2973 => ((h.2.2 (xb_n0 q2975)).2.2.2 (xb_0 q2973))⟩⟩))⟩⟩⟩)))
theorem c_238 {I : XI} {L : XL} {D : GD}   {what : Int} (h : (SO (I 111) ∧ (-2147483648 ≤ what ∧ what ≤ 2147483647))) : xM 6 238 [xr (some 101), xi what] I L (gG D) (0, 0) (fun r2 I2 L2 G2 => ∃ (f9 : Int) (kp : Int → Int) (fn2 : Int → Int), r2 = (some (xi (if (I 111 (0 : Int) = 1 ∧ (-1 ≤ what ∧ what ≤ 9) ∧ pbits (pslices (I 111) (-1)) ≤ 6) then qfair (I 111) what else -3))) ∧ I2 = (xsc (xsc (xsc (xsc I 101 (xup (I 101) (31 : Int) (if (I 111 (0 : Int) = 1 ∧ (-1 ≤ what ∧ what ≤ 9) ∧ pbits (pslices (I 111) (-1)) ≤ 6) then f9 else I 101 (31 : Int)))) 111 (if (I 111 (0 : Int) = 1 ∧ (-1 ≤ what ∧ what ≤ 9) ∧ pbits (pslices (I 111) (-1)) ≤ 6) then (I 111) else (I 111))) 113 (if (I 111 (0 : Int) = 1 ∧ (-1 ≤ what ∧ what ≤ 9) ∧ pbits (pslices (I 111) (-1)) ≤ 6) then kp else (I 113))) 116 (if (I 111 (0 : Int) = 1 ∧ (-1 ≤ what ∧ what ≤ 9) ∧ pbits (pslices (I 111) (-1)) ≤ 6) then fn2 else (I 116))) ∧ L2 = L ∧ G2 = (gG D)) := by
  intro d hd
  obtain ⟨hS, h1⟩ := h
  have hn := hS.n
  have hg := hS.g
  have hf := hS.f
  have hb := pslices_rg hS (-1)
  have hb2 := pbits_rg hb.1 hb.2
  have hfa := pfa_rg (I 111) (pslices (I 111) (-1)) (pcodes (I 111) (pslices (I 111) (-1)))
  have lb := fun (rw2 : Int → Int) (hA : Agr (I 111) rw2) => lays_back (a := I 111) (b := rw2) (c := I 113) (fun j hj => hA j (by omega))
  refine w_238 (by omega) ?_
  by_cases hc : (I 111 (0 : Int) = 1 ∧ (-1 ≤ what ∧ what ≤ 9) ∧ pbits (pslices (I 111) (-1)) ≤ 6)
  · simp only [if_pos hc]
    have hcl := pcodes_le hS hc.2.2
    repeat' first | (with_reducible intro _) | (with_reducible refine And.intro ?_ ?_)
    all_goals first | omega | assumption | exact True.intro | exact ⟨hS, by omega⟩ | exact ⟨hS, hc.1, rfl, hc.2.2⟩ | exact ⟨_, _, _, (by first | rfl | trivial), (by first | rfl | trivial), (by first | rfl | trivial), (by first | rfl | trivial)⟩ | skip
    all_goals (
      rename Agr (I 111) _ ∧ _ => hpr
      simp only [lb _ hpr.1] at *
      first
        | omega
        | (exact ⟨_, _, _, (by unfold qfair; rw [if_pos (by assumption)]), rfl, (by first | rfl | trivial), (by first | rfl | trivial)⟩)
        | (exact ⟨_, _, _, (by unfold qfair; rw [if_neg (by assumption), if_pos (by first | exact Or.inl (by assumption) | exact Or.inr (Or.inl (by assumption)) | exact Or.inr (Or.inr (by assumption)))]), rfl, (by first | rfl | trivial), (by first | rfl | trivial)⟩)
        | (have qs : 0 ≤ what ∧ what < I 111 3 := by assumption
           have q0 : ¬ (pfa (I 111) (pslices (I 111) (-1)) (pcodes (I 111) (pslices (I 111) (-1)))).1 = 0 := by assumption
           have qb : xand (xshr (pslices (I 111) (-1)) what) 1 = 1 := by assumption
           exact ⟨_, _, _, (by unfold qfair; rw [if_neg (by assumption), if_neg (fun r => r.elim q0 (fun r => r.elim (fun r => r qs) (fun r => r qb))), hpr.2 q0 what qs.1 qs.2]), rfl, (by first | rfl | trivial), (by first | rfl | trivial)⟩))
  · simp only [if_neg hc]
    repeat' first | (with_reducible intro _) | (with_reducible refine And.intro ?_ ?_)
    all_goals first | omega | assumption | exact True.intro | exact ⟨hS, by omega⟩ | exact ⟨hS, hc.1, rfl, hc.2.2⟩ | (exact ⟨I 101 31, I 113, I 116, (by first | rfl | trivial), (by (funext i; by_cases h101 : i = 101; (subst h101; first | rfl | exact (xcp_zero _ _ _ _).symm | exact (xup_self _ _).symm | exact (xup_self2 _ _ _).symm | exact (xup_self3 _ _ _ _).symm | exact xup_self _ _); by_cases h111 : i = 111; (subst h111; first | rfl | exact (xcp_zero _ _ _ _).symm | exact (xup_self _ _).symm | exact (xup_self2 _ _ _).symm | exact (xup_self3 _ _ _ _).symm | exact xup_self _ _); by_cases h113 : i = 113; (subst h113; first | rfl | exact (xcp_zero _ _ _ _).symm | exact (xup_self _ _).symm | exact (xup_self2 _ _ _).symm | exact (xup_self3 _ _ _ _).symm | exact xup_self _ _); by_cases h116 : i = 116; (subst h116; first | rfl | exact (xcp_zero _ _ _ _).symm | exact (xup_self _ _).symm | exact (xup_self2 _ _ _).symm | exact (xup_self3 _ _ _ _).symm | exact xup_self _ _); first | rfl | simp only [xsc_ne _ _ h101, xsc_ne _ _ h111, xsc_ne _ _ h113, xsc_ne _ _ h116])), (by first | rfl | trivial), (by first | rfl | trivial)⟩) | skip
