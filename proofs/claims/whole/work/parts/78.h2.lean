/-! fair: both say the same -/
theorem nfold_congr {σ : Type} {f g : Nat → σ → σ} : ∀ (n : Nat) (s : σ), (∀ k, k < n → ∀ s, f k s = g k s) → nfold f n s = nfold g n s := by
  intro n
  induction n with
  | zero => intro s _; rfl
  | succ n ih =>
    intro s h
    show f n (nfold f n s) = g n (nfold g n s)
    rw [ih s (fun k hk => h k (by omega)), h n (by omega)]
theorem nfold_add {σ : Type} {f : Nat → σ → σ} (m : Nat) (s : σ) : ∀ n : Nat, nfold f (m + n) s = nfold (fun j => f (m + j)) n (nfold f m s) := by
  intro n
  induction n with
  | zero => rfl
  | succ n ih =>
    show f (m + n) (nfold f (m + n) s) = _
    rw [ih]
    rfl
theorem nfold_mul {σ : Type} {f : Nat → σ → σ} (n : Nat) (s : σ) : ∀ m : Nat, nfold f (m * n) s = nfold (fun i t => nfold (fun j => f (i * n + j)) n t) m s := by
  intro m
  induction m with
  | zero => rw [Nat.zero_mul]; rfl
  | succ m ih =>
    rw [Nat.succ_mul, nfold_add, ih]
    rfl
def pov (a O : Int → Int) (s : Int) : Int → Int := fun j => if 11 ≤ j ∧ j < 11 + s ∧ a j = -1 then O (j - 11) else a j
def cfr (a : Int → Int) : Nat → (Int → Int) × Int × (Int → Int) → (Int → Int) × Int × (Int → Int)
  | 0, t => if qenvy (pov a t.1 (a 3)) = 0 then (t.1, t.2.1 + 1, if t.2.1 = 0 then xcp t.1 t.2.2 0 0 10 else t.2.2) else t
  | K + 1, t => if a (11 + (a 3 - (K : Int) - 1)) = -1 then nfold (fun g t => cfr a K (xup t.1 (a 3 - (K : Int) - 1) (g : Int), t.2)) (a 4).toNat t else cfr a K t
def pfc (a : Int → Int) : Nat → Nat
  | 0 => 0
  | K + 1 => pfc a K + (if a (11 + (a 3 - (K : Int) - 1)) = -1 then 1 else 0)
def pgu (a : Int → Int) : Nat → Nat → (Int → Int) → (Int → Int)
  | 0, _, w => w
  | K + 1, c, w => if a (11 + (a 3 - (K : Int) - 1)) = -1 then pgu a K (c % (a 4).toNat ^ pfc a K) (xup w (11 + (a 3 - (K : Int) - 1)) ((c / (a 4).toNat ^ pfc a K : Nat) : Int)) else pgu a K c w
def lstep (w : Int → Int) (st : Int × (Int → Int)) : Int × (Int → Int) := if qenvy w = 0 then (st.1 + 1, if st.1 = 0 then w else st.2) else st
theorem xup_comm2 {f : Int → Int} {i j x y : Int} (h : ¬ i = j) : xup (xup f i x) j y = xup (xup f j y) i x := by
  funext k
  unfold xup
  by_cases h1 : k = i
  · subst h1; rw [if_neg h, if_pos rfl, if_pos rfl]
  · by_cases h2 : k = j
    · subst h2; rw [if_pos rfl, if_neg h1, if_pos rfl]
    · rw [if_neg h2, if_neg h1, if_neg h1, if_neg h2]
theorem pgu_comm {a : Int → Int} {s v : Int} : ∀ (K c : Nat) (w : Int → Int), s < a 3 - (K : Int) → pgu a K c (xup w (11 + s) v) = xup (pgu a K c w) (11 + s) v := by
  intro K
  induction K with
  | zero => intro c w _; rfl
  | succ K ih =>
    intro c w hs
    unfold pgu
    split
    · rw [xup_comm2 (by omega), ih _ _ (by omega)]
    · exact ih _ _ (by omega)
theorem pgT_pgu {a : Int → Int} (h : SO a) (c : Nat) : ∀ K : Nat, (K : Int) ≤ a 3 → (pgT a (pslices a (-1)) c K).1 = c / (a 4).toNat ^ pfc a K ∧ (pgT a (pslices a (-1)) c K).2 = pgu a K (c % (a 4).toNat ^ pfc a K) a := by
  intro K
  induction K with
  | zero => intro _; exact ⟨by show c = c / _ ^ 0; rw [Nat.pow_zero, Nat.div_one], rfl⟩
  | succ K ih =>
    intro hK
    obtain ⟨i1, i2⟩ := ih (by omega)
    have hn := h.n
    have es : (((a 3).toNat - K - 1 : Nat) : Int) = a 3 - (K : Int) - 1 := by omega
    have hb := pslices_bit h (-1) (n := (a 3).toNat - K - 1) (by omega)
    have eT : pgT a (pslices a (-1)) c (K + 1) = if xand (xshr (pslices a (-1)) (((a 3).toNat - K - 1 : Nat) : Int)) 1 = 1 then ((pgT a (pslices a (-1)) c K).1 / (a 4).toNat, xup (pgT a (pslices a (-1)) c K).2 (11 + (((a 3).toNat - K - 1 : Nat) : Int)) (((pgT a (pslices a (-1)) c K).1 % (a 4).toNat : Nat) : Int)) else pgT a (pslices a (-1)) c K := rfl
    have eU : ∀ c w, pgu a (K + 1) c w = if a (11 + (a 3 - (K : Int) - 1)) = -1 then pgu a K (c % (a 4).toNat ^ pfc a K) (xup w (11 + (a 3 - (K : Int) - 1)) ((c / (a 4).toNat ^ pfc a K : Nat) : Int)) else pgu a K c w := fun _ _ => rfl
    have eF : pfc a (K + 1) = pfc a K + (if a (11 + (a 3 - (K : Int) - 1)) = -1 then 1 else 0) := rfl
    rw [eT, eU, eF]
    rw [es] at hb ⊢
    by_cases q : a (11 + (a 3 - (K : Int) - 1)) = -1
    · rw [if_pos q] at hb
      rw [if_pos hb, if_pos q, if_pos q]
      constructor
      · show (pgT a (pslices a (-1)) c K).1 / (a 4).toNat = _
        rw [i1, Nat.div_div_eq_div_mul, ← Nat.pow_succ]
      · show xup (pgT a (pslices a (-1)) c K).2 _ _ = _
        rw [i1, i2, Nat.pow_succ, Nat.mod_mul_right_mod, Nat.mod_mul_right_div_self, pgu_comm _ _ _ (by omega)]
    · rw [if_neg q] at hb
      rw [hb, if_neg (show ¬ (0 : Int) = 1 by decide), if_neg q, if_neg q, Nat.add_zero]
      exact ⟨i1, i2⟩
theorem cbn_ge {x n : Nat} (h : x < 2 ^ n) : ∀ m : Nat, cbn x (n + m) = cbn x n := by
  intro m
  induction m with
  | zero => rfl
  | succ m ih =>
    show cbn x (n + m) + x / 2 ^ (n + m) % 2 = _
    rw [ih, Nat.div_eq_of_lt (Nat.lt_of_lt_of_le h (Nat.pow_le_pow_right (by decide) (by omega))), Nat.zero_mod, Nat.add_zero]
theorem pfc_eq {a : Int → Int} (h : SO a) : (pbits (pslices a (-1))).toNat = pfc a (a 3).toNat := by
  have hn := h.n
  have hl := pslN_lt a (-1) (a 3).toNat
  have e1 : (pbits (pslices a (-1))).toNat = cbn (pslN a (-1) (a 3).toNat) 10 := by
    unfold pslices pbits
    rw [psl_N _ _ _ (by omega), Int.toNat_natCast, Int.toNat_natCast, pbn_cbn]
  rw [e1, show 10 = (a 3).toNat + (10 - (a 3).toNat) by omega, cbn_ge hl]
  have key : ∀ K : Nat, K ≤ (a 3).toNat → cbn (pslN a (-1) (a 3).toNat) ((a 3).toNat - K) + pfc a K = cbn (pslN a (-1) (a 3).toNat) (a 3).toNat := by
    intro K
    induction K with
    | zero => intro _; rfl
    | succ K ih =>
      intro hK
      have i1 := ih (by omega)
      have es : (((a 3).toNat - K - 1 : Nat) : Int) = a 3 - (K : Int) - 1 := by omega
      have hb := pslN_bit a (-1) (a 3).toNat ((a 3).toNat - K - 1) (by omega)
      rw [es, Nat.testBit_eq_decide_div_mod_eq] at hb
      have ec : cbn (pslN a (-1) (a 3).toNat) ((a 3).toNat - K) = cbn (pslN a (-1) (a 3).toNat) ((a 3).toNat - K - 1) + pslN a (-1) (a 3).toNat / 2 ^ ((a 3).toNat - K - 1) % 2 := by
        conv => lhs; rw [show (a 3).toNat - K = (a 3).toNat - K - 1 + 1 by omega]
        rfl
      unfold pfc
      rw [show (a 3).toNat - (K + 1) = (a 3).toNat - K - 1 by omega]
      by_cases q : a (11 + (a 3 - (K : Int) - 1)) = -1
      · rw [if_pos q]
        have : pslN a (-1) (a 3).toNat / 2 ^ ((a 3).toNat - K - 1) % 2 = 1 := by
          rw [decide_eq_decide] at hb; exact hb.mpr q
        omega
      · rw [if_neg q]
        have : ¬ pslN a (-1) (a 3).toNat / 2 ^ ((a 3).toNat - K - 1) % 2 = 1 := by
          rw [decide_eq_decide] at hb; exact fun r => q (hb.mp r)
        omega
  have := key (a 3).toNat (Nat.le_refl _)
  rw [Nat.sub_self] at this
  show cbn _ _ = _
  have e0 : cbn (pslN a (-1) (a 3).toNat) 0 = 0 := rfl
  omega
theorem pov_agree {a O O2 : Int → Int} {s : Int} (h : ∀ i, 0 ≤ i → i < s → O2 i = O i) : pov a O2 s = pov a O s := by
  funext j
  unfold pov
  by_cases q : 11 ≤ j ∧ j < 11 + s ∧ a j = -1
  · rw [if_pos q, if_pos q]; exact h _ (by omega) (by omega)
  · rw [if_neg q, if_neg q]
theorem pov_free {a O : Int → Int} {s g : Int} (h0 : 0 ≤ s) (hf : a (11 + s) = -1) : pov a (xup O s g) (s + 1) = xup (pov a O s) (11 + s) g := by
  funext j
  by_cases q : j = 11 + s
  · subst q
    rw [xup_same]
    unfold pov
    rw [if_pos ⟨by omega, by omega, hf⟩, show 11 + s - 11 = s by omega, xup_same]
  · rw [xup_ne _ _ q]
    unfold pov
    by_cases q2 : 11 ≤ j ∧ j < 11 + s ∧ a j = -1
    · rw [if_pos q2, if_pos (by omega), xup_ne _ _ (by omega)]
    · rw [if_neg q2, if_neg (by omega)]
theorem pov_kept {a O : Int → Int} {s : Int} (hf : ¬ a (11 + s) = -1) : pov a O (s + 1) = pov a O s := by
  funext j
  unfold pov
  by_cases q2 : 11 ≤ j ∧ j < 11 + s ∧ a j = -1
  · rw [if_pos q2, if_pos (by omega)]
  · rw [if_neg q2]
    by_cases q : j = 11 + s
    · subst q; rw [if_neg (fun r => hf r.2.2)]
    · rw [if_neg (by omega)]
def Frl (a : Int → Int) (t : (Int → Int) × Int × (Int → Int)) (st : Int × (Int → Int)) : Prop := t.2.1 = st.1 ∧ 0 ≤ st.1 ∧ (¬ st.1 = 0 → ∀ i, 0 ≤ i → i < a 3 → a (11 + i) = -1 → t.2.2 i = st.2 (11 + i))
theorem cfr_main {a : Int → Int} (hS : SO a) : ∀ (K : Nat), (K : Int) ≤ a 3 → ∀ (t : (Int → Int) × Int × (Int → Int)) (st : Int × (Int → Int)), Frl a t st → Frl a (cfr a K t) (nfold (fun c => lstep (pgu a K c (pov a t.1 (a 3 - (K : Int))))) ((a 4).toNat ^ pfc a K) st) ∧ (∀ i, 0 ≤ i → i < a 3 - (K : Int) → (cfr a K t).1 i = t.1 i) := by
  intro K
  have hn := hS.n
  induction K with
  | zero =>
    intro _ t st h
    obtain ⟨h1, h2, h3⟩ := h
    have e0 : a 3 - ((0 : Nat) : Int) = a 3 := by omega
    rw [e0]
    show Frl a (if qenvy (pov a t.1 (a 3)) = 0 then (t.1, t.2.1 + 1, if t.2.1 = 0 then xcp t.1 t.2.2 0 0 10 else t.2.2) else t) (lstep (pov a t.1 (a 3)) st) ∧ _
    unfold lstep
    by_cases q : qenvy (pov a t.1 (a 3)) = 0
    · have ec : cfr a 0 t = (t.1, t.2.1 + 1, if t.2.1 = 0 then xcp t.1 t.2.2 0 0 10 else t.2.2) := if_pos q
      rw [if_pos q, if_pos q, ec]
      refine ⟨⟨by show t.2.1 + 1 = st.1 + 1; omega, by show 0 ≤ st.1 + 1; omega, fun _ i i0 i1 i2 => ?_⟩, fun i _ _ => rfl⟩
      show (if t.2.1 = 0 then xcp t.1 t.2.2 0 0 10 else t.2.2) i = (if st.1 = 0 then pov a t.1 (a 3) else st.2) (11 + i)
      rw [h1]
      by_cases q2 : st.1 = 0
      · rw [if_pos q2, if_pos q2, xcp0 i0 (by omega)]
        unfold pov
        rw [if_pos ⟨by omega, by omega, i2⟩, show 11 + i - 11 = i by omega]
      · rw [if_neg q2, if_neg q2]; exact h3 q2 i i0 i1 i2
    · have ec : cfr a 0 t = t := if_neg q
      rw [if_neg q, if_neg q, ec]
      exact ⟨⟨h1, h2, h3⟩, fun i _ _ => rfl⟩
  | succ K ih =>
    intro hK t st h
    have es : a 3 - ((K + 1 : Nat) : Int) = a 3 - (K : Int) - 1 := by omega
    have es1 : a 3 - (K : Int) - 1 + 1 = a 3 - (K : Int) := by omega
    rw [es]
    by_cases q : a (11 + (a 3 - (K : Int) - 1)) = -1
    · have ec : cfr a (K + 1) t = nfold (fun g t => cfr a K (xup t.1 (a 3 - (K : Int) - 1) (g : Int), t.2)) (a 4).toNat t := if_pos q
      have ep : pfc a (K + 1) = pfc a K + 1 := by show pfc a K + (if _ then 1 else 0) = _; rw [if_pos q]
      rw [ec, ep, Nat.pow_succ, Nat.mul_comm, nfold_mul]
      have key : ∀ g : Nat, g ≤ (a 4).toNat → Frl a (nfold (fun g t => cfr a K (xup t.1 (a 3 - (K : Int) - 1) (g : Int), t.2)) g t) (nfold (fun i s => nfold (fun j => lstep (pgu a (K + 1) (i * (a 4).toNat ^ pfc a K + j) (pov a t.1 (a 3 - (K : Int) - 1)))) ((a 4).toNat ^ pfc a K) s) g st) ∧ (∀ i, 0 ≤ i → i < a 3 - (K : Int) - 1 → (nfold (fun g t => cfr a K (xup t.1 (a 3 - (K : Int) - 1) (g : Int), t.2)) g t).1 i = t.1 i) := by
        intro g
        induction g with
        | zero => intro _; exact ⟨h, fun i _ _ => rfl⟩
        | succ g ihg =>
          intro hg
          obtain ⟨j1, j2⟩ := ihg (by omega)
          have ef : nfold (fun g t => cfr a K (xup t.1 (a 3 - (K : Int) - 1) (g : Int), t.2)) (g + 1) t = cfr a K (xup (nfold (fun g t => cfr a K (xup t.1 (a 3 - (K : Int) - 1) (g : Int), t.2)) g t).1 (a 3 - (K : Int) - 1) (g : Int), (nfold (fun g t => cfr a K (xup t.1 (a 3 - (K : Int) - 1) (g : Int), t.2)) g t).2) := rfl
          have eg : nfold (fun i s => nfold (fun j => lstep (pgu a (K + 1) (i * (a 4).toNat ^ pfc a K + j) (pov a t.1 (a 3 - (K : Int) - 1)))) ((a 4).toNat ^ pfc a K) s) (g + 1) st = nfold (fun j => lstep (pgu a (K + 1) (g * (a 4).toNat ^ pfc a K + j) (pov a t.1 (a 3 - (K : Int) - 1)))) ((a 4).toNat ^ pfc a K) (nfold (fun i s => nfold (fun j => lstep (pgu a (K + 1) (i * (a 4).toNat ^ pfc a K + j) (pov a t.1 (a 3 - (K : Int) - 1)))) ((a 4).toNat ^ pfc a K) s) g st) := rfl
          rw [ef, eg]
          generalize hT : nfold (fun g t => cfr a K (xup t.1 (a 3 - (K : Int) - 1) (g : Int), t.2)) g t = T at j1 j2 ⊢
          generalize hU : nfold (fun i s => nfold (fun j => lstep (pgu a (K + 1) (i * (a 4).toNat ^ pfc a K + j) (pov a t.1 (a 3 - (K : Int) - 1)))) ((a 4).toNat ^ pfc a K) s) g st = U at j1 ⊢
          have i0 := ih (by omega) (xup T.1 (a 3 - (K : Int) - 1) (g : Int), T.2) U j1
          have ev : pov a (xup T.1 (a 3 - (K : Int) - 1) (g : Int)) (a 3 - (K : Int)) = xup (pov a t.1 (a 3 - (K : Int) - 1)) (11 + (a 3 - (K : Int) - 1)) (g : Int) := by
            have := pov_free (a := a) (O := T.1) (s := a 3 - (K : Int) - 1) (g := (g : Int)) (by omega) q
            rw [es1] at this
            rw [this, pov_agree j2]
          obtain ⟨i1, i2⟩ := i0
          simp only [ev] at i1
          refine ⟨?_, fun i i0 i9 => ?_⟩
          · have ex : nfold (fun j => lstep (pgu a (K + 1) (g * (a 4).toNat ^ pfc a K + j) (pov a t.1 (a 3 - (K : Int) - 1)))) ((a 4).toNat ^ pfc a K) U = nfold (fun c => lstep (pgu a K c (xup (pov a t.1 (a 3 - (K : Int) - 1)) (11 + (a 3 - (K : Int) - 1)) (g : Int)))) ((a 4).toNat ^ pfc a K) U := by
              refine nfold_congr _ _ (fun j hj s => ?_)
              have e1 : pgu a (K + 1) (g * (a 4).toNat ^ pfc a K + j) (pov a t.1 (a 3 - (K : Int) - 1)) = pgu a K ((g * (a 4).toNat ^ pfc a K + j) % (a 4).toNat ^ pfc a K) (xup (pov a t.1 (a 3 - (K : Int) - 1)) (11 + (a 3 - (K : Int) - 1)) (((g * (a 4).toNat ^ pfc a K + j) / (a 4).toNat ^ pfc a K : Nat) : Int)) := if_pos q
              have e2 : (g * (a 4).toNat ^ pfc a K + j) % (a 4).toNat ^ pfc a K = j := by rw [Nat.mul_comm, Nat.mul_add_mod, Nat.mod_eq_of_lt hj]
              have e3 : (g * (a 4).toNat ^ pfc a K + j) / (a 4).toNat ^ pfc a K = g := by rw [Nat.mul_comm, Nat.mul_add_div (by omega), Nat.div_eq_of_lt hj, Nat.add_zero]
              rw [e1, e2, e3]
            rw [ex]
            exact i1
          · rw [i2 i i0 (by omega)]
            show xup T.1 (a 3 - (K : Int) - 1) (g : Int) i = t.1 i
            rw [xup_ne _ _ (by omega)]
            exact j2 i i0 i9
      exact key _ (Nat.le_refl _)
    · have ec : cfr a (K + 1) t = cfr a K t := if_neg q
      have ep : pfc a (K + 1) = pfc a K := by show pfc a K + (if _ then 1 else 0) = _; rw [if_neg q, Nat.add_zero]
      obtain ⟨i1, i2⟩ := ih (by omega) t st h
      rw [ec, ep]
      have ev := pov_kept (a := a) (O := t.1) (s := a 3 - (K : Int) - 1) q
      rw [es1] at ev
      rw [ev] at i1
      refine ⟨?_, fun i i0 i9 => i2 i i0 (by omega)⟩
      have ex : nfold (fun c => lstep (pgu a (K + 1) c (pov a t.1 (a 3 - (K : Int) - 1)))) ((a 4).toNat ^ pfc a K) st = nfold (fun c => lstep (pgu a K c (pov a t.1 (a 3 - (K : Int) - 1)))) ((a 4).toNat ^ pfc a K) st := by
        refine nfold_congr _ _ (fun j hj s => ?_)
        have e1 : pgu a (K + 1) j (pov a t.1 (a 3 - (K : Int) - 1)) = pgu a K j (pov a t.1 (a 3 - (K : Int) - 1)) := if_neg q
        rw [e1]
      rw [ex]
      exact i1
theorem pov_0 {a O : Int → Int} : pov a O 0 = a := by
  funext j
  unfold pov
  rw [if_neg (by omega)]
theorem cfr_pfa {a : Int → Int} (hS : SO a) (O Fd : Int → Int) : Frl a (cfr a (a 3).toNat (O, 0, Fd)) (pfa a (pslices a (-1)) (pcodes a (pslices a (-1)))) := by
  have hn := hS.n
  have h := (cfr_main hS (a 3).toNat (by omega) (O, 0, Fd) (0, a) ⟨rfl, Int.le_refl _, fun q => absurd rfl q⟩).1
  have e0 : a 3 - ((a 3).toNat : Int) = 0 := by omega
  rw [e0] at h
  simp only [pov_0] at h
  unfold pfa pcodes
  rw [pfc_eq hS]
  have ex : nfold (pfs a (pslices a (-1))) ((a 4).toNat ^ pfc a (a 3).toNat) (0, a) = nfold (fun c => lstep (pgu a (a 3).toNat c a)) ((a 4).toNat ^ pfc a (a 3).toNat) (0, a) := by
    refine nfold_congr _ _ (fun c hc s => ?_)
    have := (pgT_pgu hS c (a 3).toNat (by omega)).2
    rw [Nat.mod_eq_of_lt hc] at this
    unfold pfs lstep
    rw [this]
  rw [ex]
  exact h
theorem qfair_c {a : Int → Int} (hS : SO a) (O Fd : Int → Int) (what : Int) : qfair a what = if what = -1 then (cfr a (a 3).toNat (O, 0, Fd)).2.1 else if 0 < (cfr a (a 3).toNat (O, 0, Fd)).2.1 ∧ ((0 ≤ what ∧ what < a 3) ∧ a (11 + what) = -1) then (cfr a (a 3).toNat (O, 0, Fd)).2.2 what else -2 := by
  obtain ⟨h1, h2, h3⟩ := cfr_pfa hS O Fd
  have hn := hS.n
  unfold qfair
  rw [h1]
  generalize pfa a (pslices a (-1)) (pcodes a (pslices a (-1))) = P at *
  by_cases q : what = -1
  · rw [if_pos q, if_pos q]
  · rw [if_neg q, if_neg q]
    by_cases q1 : P.1 = 0
    · rw [if_pos (Or.inl q1), if_neg (fun r => by omega)]
    · by_cases q2 : 0 ≤ what ∧ what < a 3
      · have hb := pslices_bit hS (-1) (n := what.toNat) (by omega)
        rw [Int.toNat_of_nonneg q2.1] at hb
        by_cases q3 : a (11 + what) = -1
        · rw [if_pos q3] at hb
          rw [if_neg (fun r => r.elim q1 (fun r => r.elim (fun r => r q2) (fun r => r hb))), if_pos ⟨by omega, q2, q3⟩, h3 q1 what q2.1 q2.2 q3]
        · rw [if_neg q3] at hb
          rw [if_pos (Or.inr (Or.inr (by rw [hb]; decide))), if_neg (fun r => q3 r.2.2)]
      · rw [if_pos (Or.inr (Or.inl q2)), if_neg (fun r => q2 r.2.1)]
