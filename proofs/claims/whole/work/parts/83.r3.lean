/-! round: what the class may leave out -/
theorem nfold_id {σ : Type} {f : Nat → σ → σ} {s : σ} : ∀ n : Nat, (∀ k, k < n → f k s = s) → nfold f n s = s := by
  intro n
  induction n with
  | zero => intro _; rfl
  | succ n ih =>
    intro h
    show f n (nfold f n s) = s
    rw [ih (fun k hk => h k (by omega)), h n (by omega)]
theorem pb_full : (List.range 6).all (fun G => (List.range 32).all (fun x => decide (2 ^ G ≤ x) || (decide (pbn x ≤ G) && (decide (pbn x = G) == decide (x + 1 = 2 ^ G))))) = true := by decide +kernel
theorem pb_or : (List.range 32).all (fun x => (List.range 5).all (fun j => decide (pbn (x ||| 2 ^ j) ≤ pbn x + 1))) = true := by decide +kernel
theorem pb_G {G x : Nat} (hG : G ≤ 5) (hx : x < 2 ^ G) : pbn x ≤ G ∧ (pbn x = G ↔ x + 1 = 2 ^ G) := by
  have h5 : 2 ^ G ≤ 2 ^ 5 := Nat.pow_le_pow_right (by decide) hG
  have := List.all_eq_true.mp (List.all_eq_true.mp pb_full G (List.mem_range.mpr (by omega))) x (List.mem_range.mpr (by omega))
  simp only [Bool.or_eq_true, Bool.and_eq_true, decide_eq_true_eq, beq_iff_eq, decide_eq_decide] at this
  rcases this with h | h
  · omega
  · exact h
theorem pus_iff {p : Int → Int} {g : Int} {k : Nat} : pus p g k = true ↔ ∃ i : Nat, i < k ∧ p (i : Int) = g := by
  unfold pus
  rw [pany_iff]
  constructor
  · rintro ⟨j, h1, h2, h3⟩; exact ⟨j, by omega, of_decide_eq_true h3⟩
  · rintro ⟨j, h1, h2⟩; exact ⟨j, by omega, by omega, decide_eq_true h2⟩
theorem psetN_bit {p : Int → Int} {g : Int} (g0 : 0 ≤ g) : ∀ k : Nat, PIN p (k : Int) → ((psetN p k).testBit g.toNat = true ↔ pus p g k = true) := by
  intro k
  induction k with
  | zero => intro _; rw [pus_iff]; exact ⟨fun h => by rw [show psetN p 0 = 0 from rfl, Nat.zero_testBit] at h; exact absurd h (by decide), fun ⟨i, h, _⟩ => by omega⟩
  | succ k ih =>
    intro h
    have h1 := h (k : Int) (by omega) (by omega)
    have i1 := ih (fun i i0 i1 => h i i0 (by omega))
    unfold psetN
    rw [Nat.testBit_or, Bool.or_eq_true, i1, pus_iff, pus_iff]
    constructor
    · rintro (⟨i, a1, a2⟩ | q)
      · exact ⟨i, by omega, a2⟩
      · refine ⟨k, by omega, ?_⟩
        by_cases q2 : (p (k : Int)).toNat = g.toNat
        · omega
        · rw [Nat.testBit_two_pow_of_ne q2] at q; exact absurd q (by decide)
    · rintro ⟨i, a1, a2⟩
      by_cases qi : i = k
      · right
        subst qi
        rw [a2]; exact Nat.testBit_two_pow_self
      · left; exact ⟨i, by omega, a2⟩
theorem pset_bit {p : Int → Int} {g : Int} (g0 : 0 ≤ g) (g1 : g < 5) {k : Nat} (h : PIN p (k : Int)) : (xand (xshr (pset p k) g) 1 = 0 ↔ ¬ pus p g k = true) := by
  have hl := psetN_lt (G := 5) k h
  have hb := xbit (psetN p k) g.toNat (by omega) (by omega)
  rw [Int.toNat_of_nonneg g0, ← pset_N k h] at hb
  rw [hb, ← psetN_bit g0 k h]
  by_cases q : (psetN p k).testBit g.toNat = true
  · rw [if_pos q]; exact ⟨fun h => absurd h (by decide), fun h => absurd q h⟩
  · rw [if_neg q]; exact ⟨fun _ => q, fun _ => rfl⟩
theorem pset_used {p : Int → Int} {k : Nat} (h : PIN p ((k : Int) + 1)) (hu : pus p (p (k : Int)) k = true) : pset p (k + 1) = pset p k := by
  have h1 := h (k : Int) (by omega) (by omega)
  have h2 : PIN p (k : Int) := fun i i0 i1 => h i i0 (by omega)
  rw [pset_N _ (by rw [show ((k + 1 : Nat) : Int) = (k : Int) + 1 by omega]; exact h), pset_N _ h2]
  have hb := (psetN_bit h1.1 k h2).mpr hu
  have : psetN p (k + 1) = psetN p k := by
    show psetN p k ||| 2 ^ (p (k : Int)).toNat = psetN p k
    apply Nat.eq_of_testBit_eq
    intro j
    rw [Nat.testBit_or]
    by_cases q : (p (k : Int)).toNat = j
    · rw [← q, hb, Bool.true_or]
    · rw [Nat.testBit_two_pow_of_ne q, Bool.or_false]
  rw [this]
theorem pum_step {p : Int → Int} {k : Nat} (h : PIN p ((k : Int) + 1)) : pum p (k + 1) ≤ pum p k + 1 := by
  have h1 := h (k : Int) (by omega) (by omega)
  have h2 : PIN p (k : Int) := fun i i0 i1 => h i i0 (by omega)
  have hl := psetN_lt (G := 5) k h2
  unfold pum
  rw [pset_N _ (by rw [show ((k + 1 : Nat) : Int) = (k : Int) + 1 by omega]; exact h), pset_N _ h2]
  have e9 : psetN p (k + 1) = psetN p k ||| 2 ^ (p (k : Int)).toNat := rfl
  rw [e9]
  unfold pbits
  rw [Int.toNat_natCast, Int.toNat_natCast]
  have := of_decide_eq_true (List.all_eq_true.mp (List.all_eq_true.mp pb_or (psetN p k) (List.mem_range.mpr hl)) (p (k : Int)).toNat (List.mem_range.mpr (by omega)))
  omega
theorem pum_G {p : Int → Int} {k : Nat} {G : Int} (hG : 0 ≤ G ∧ G ≤ 5) (h : ∀ i, 0 ≤ i → i < (k : Int) → 0 ≤ p i ∧ p i < G) : 0 ≤ pum p k ∧ pum p k ≤ G ∧ (pum p k = G ↔ pset p k = xshl 1 G - 1) := by
  have h2 : PIN p (k : Int) := fun i i0 i1 => by have := h i i0 i1; omega
  have hl := psetN_lt (p := p) (G := G.toNat) k (fun i i0 i1 => by have := h i i0 i1; omega)
  have h3 := pb_G (by omega) hl
  have e : xshl 1 G = ((2 ^ G.toNat : Nat) : Int) := by
    have := xshl_n (j := G.toNat) (by omega)
    rw [Int.toNat_of_nonneg hG.1] at this
    exact this
  unfold pum
  rw [pset_N _ h2, e]
  unfold pbits
  rw [Int.toNat_natCast]
  have := Nat.two_pow_pos G.toNat
  omega
theorem pum_all {p : Int → Int} {k : Nat} {G g : Int} (hG : 0 ≤ G ∧ G ≤ 5) (h : ∀ i, 0 ≤ i → i < (k : Int) → 0 ≤ p i ∧ p i < G) (hf : pum p k = G) (g0 : 0 ≤ g) (g1 : g < G) : pus p g k = true := by
  have h2 : PIN p (k : Int) := fun i i0 i1 => by have := h i i0 i1; omega
  have h3 := (pum_G hG h).2.2.mp hf
  have e : xshl 1 G = ((2 ^ G.toNat : Nat) : Int) := by
    have := xshl_n (j := G.toNat) (by omega)
    rw [Int.toNat_of_nonneg hG.1] at this
    exact this
  rw [← psetN_bit g0 k h2]
  rw [pset_N _ h2, e] at h3
  have h4 : psetN p k = 2 ^ G.toNat - 1 := by
    have := Nat.two_pow_pos G.toNat
    omega
  rw [h4, Nat.testBit_two_pow_sub_one]
  exact decide_eq_true (by omega)
theorem PIN_up {p : Int → Int} {s g : Int} (h : PIN p s) (g0 : 0 ≤ g) (g1 : g < 5) : PIN (xup p s g) (s + 1) := by
  intro i i0 i1
  by_cases q : i = s
  · rw [q, xup_same]; exact ⟨g0, g1⟩
  · rw [xup_ne _ _ q]; exact h i i0 (by omega)
theorem rcf_few {a : Int → Int} (h3 : 0 ≤ a 3) (hg : 0 ≤ a 4 ∧ a 4 ≤ 5) : ∀ (K : Nat), (K : Int) ≤ a 3 → ∀ (p : Int → Int) (st : Int × (Int → Int)), PIN p (a 3 - (K : Int)) → pum p (a 3 - (K : Int)).toNat + (K : Int) < a 4 → rcf a K p st = st := by
  intro K
  induction K with
  | zero =>
    intro _ p st hp hf
    unfold rcf
    rw [show a 3 - ((0 : Nat) : Int) = a 3 by omega] at hf
    rw [if_neg (by omega)]
  | succ K ih =>
    intro hK p st hp hf
    rw [show a 3 - ((K + 1 : Nat) : Int) = a 3 - (K : Int) - 1 by omega] at hp hf
    unfold rcf
    refine nfold_id _ (fun g hgl => ?_)
    split
    · refine ih (by omega) _ _ ?_ ?_
      · have := PIN_up (s := a 3 - (K : Int) - 1) hp (g := (g : Int)) (by omega) (by omega)
        rw [show a 3 - (K : Int) - 1 + 1 = a 3 - (K : Int) by omega] at this
        exact this
      · have h9 := PIN_up (s := a 3 - (K : Int) - 1) hp (g := (g : Int)) (by omega) (by omega)
        have h8 := pum_step (p := xup p (a 3 - (K : Int) - 1) (g : Int)) (k := (a 3 - (K : Int) - 1).toNat) (by rw [Int.toNat_of_nonneg (by omega)]; exact h9)
        have h7 : pum (xup p (a 3 - (K : Int) - 1) (g : Int)) (a 3 - (K : Int) - 1).toNat = pum p (a 3 - (K : Int) - 1).toNat := by
          unfold pum
          rw [pset_congr _ (fun i i0 i1 => xup_ne _ _ (by omega))]
        rw [h7, show (a 3 - (K : Int) - 1).toNat + 1 = (a 3 - (K : Int)).toNat by omega] at h8
        omega
    · rfl
theorem plst_le {a p : Int → Int} (h : SO a) : ∀ (G g : Nat), G ≤ 5 → g < G → plst a p G ≤ psm a p (g : Int) (a 3).toNat := by
  intro G
  have hn := h.n
  induction G with
  | zero => intro g _ hg; omega
  | succ G ih =>
    intro g h5 hg
    have h1 := plst_rg (p := p) h G (by omega)
    have h2 := psm_rg (p := p) h (g := (g : Int)) (by omega) (by omega) (a 3).toNat (by omega)
    unfold plst
    by_cases q : g = G
    · subst q
      split <;> omega
    · have := ih g (by omega) (by omega)
      split <;> omega
theorem rcf_bad {a : Int → Int} (hS : SO a) {x : Int} (x0 : 0 ≤ x) (x1 : x < a 4) : ∀ (K : Nat), (K : Int) < a 3 → ∀ (p : Int → Int) (st : Int × (Int → Int)), ¬ p (a 3 - (K : Int) - 1) = x → pus p x (a 3 - (K : Int)).toNat = true → ¬ p 0 = x → psm a p x (a 3 - (K : Int)).toNat ≤ st.1 → rcf a K p st = st := by
  intro K
  have hn := hS.n
  have hg := hS.g
  induction K with
  | zero =>
    intro hK p st h1 h2 h3 h4
    rw [show a 3 - ((0 : Nat) : Int) = a 3 by omega] at h4
    unfold rcf rkp
    have := plst_le (p := p) hS (a 4).toNat x.toNat (by omega) (by omega)
    rw [Int.toNat_of_nonneg x0] at this
    rw [if_pos (show plst a p (a 4).toNat ≤ st.1 by omega)]
    split <;> rfl
  | succ K ih =>
    intro hK p st h1 h2 h3 h4
    have es : a 3 - ((K + 1 : Nat) : Int) = a 3 - (K : Int) - 1 := by omega
    rw [es] at h1 h2 h4
    unfold rcf
    refine nfold_id _ (fun g hgl => ?_)
    split
    · rename_i hcan
      have hne : ¬ (g : Int) = x := by
        intro e
        unfold pcan at hcan
        rw [decide_eq_true_eq, xup_same, xup_ne _ _ (by omega), xup_ne _ _ (show ¬ (0 : Int) = a 3 - (K : Int) - 1 by omega)] at hcan
        have eu : pus (xup p (a 3 - (K : Int) - 1) (g : Int)) (g : Int) (a 3 - (K : Int) - 1).toNat = pus p (g : Int) (a 3 - (K : Int) - 1).toNat := pus_congr (fun i i0 i1 => xup_ne _ _ (by omega))
        rw [eu, e] at hcan
        rcases hcan with r | r | ⟨_, r | r⟩
        · omega
        · exact h1 r.symm
        · exact r h2
        · exact h3 r.1.symm
      refine ih (by omega) _ _ ?_ ?_ ?_ ?_
      · rw [xup_same]; exact hne
      · rw [pus_iff] at h2 ⊢
        obtain ⟨i, i1, i2⟩ := h2
        exact ⟨i, by omega, by rw [xup_ne _ _ (by omega)]; exact i2⟩
      · rw [xup_ne _ _ (by omega)]; exact h3
      · rw [show (a 3 - (K : Int)).toNat = (a 3 - (K : Int) - 1).toNat + 1 by omega]
        unfold psm
        rw [psm_congr (q := p) _ (fun i i0 i1 => xup_ne _ _ (by omega)), show (((a 3 - (K : Int) - 1).toNat : Nat) : Int) = a 3 - (K : Int) - 1 by omega, xup_same, if_neg hne, Int.add_zero]
        exact h4
    · rfl
def Req (a : Int → Int) (st su : Int × (Int → Int)) : Prop := st.1 = su.1 ∧ (0 ≤ st.1 → ∀ i, 0 ≤ i → i < a 3 → st.2 i = su.2 i)
theorem rcf_st {a : Int → Int} : ∀ (K : Nat) (p : Int → Int) (st su : Int × (Int → Int)), Req a st su → Req a (rcf a K p st) (rcf a K p su) := by
  intro K
  induction K with
  | zero =>
    intro p st su h
    unfold rcf
    split
    · unfold rkp
      rw [← h.1]
      split
      · exact h
      · refine ⟨rfl, fun _ i i0 i1 => ?_⟩
        show xcp p st.2 0 0 (a 3) i = xcp p su.2 0 0 (a 3) i
        rw [xcp0 i0 i1, xcp0 i0 i1]
    · exact h
  | succ K ih =>
    intro p st su h
    unfold rcf
    have key : ∀ n : Nat, Req a (nfold (fun g st => if pcan (a 4) (xup p (a 3 - (K : Int) - 1) (g : Int)) (a 3 - (K : Int) - 1) = true then rcf a K (xup p (a 3 - (K : Int) - 1) (g : Int)) st else st) n st) (nfold (fun g st => if pcan (a 4) (xup p (a 3 - (K : Int) - 1) (g : Int)) (a 3 - (K : Int) - 1) = true then rcf a K (xup p (a 3 - (K : Int) - 1) (g : Int)) st else st) n su) := by
      intro n
      induction n with
      | zero => exact h
      | succ n ihn =>
        generalize hT : nfold (fun g st => if pcan (a 4) (xup p (a 3 - (K : Int) - 1) (g : Int)) (a 3 - (K : Int) - 1) = true then rcf a K (xup p (a 3 - (K : Int) - 1) (g : Int)) st else st) n st = T at ihn
        generalize hU : nfold (fun g st => if pcan (a 4) (xup p (a 3 - (K : Int) - 1) (g : Int)) (a 3 - (K : Int) - 1) = true then rcf a K (xup p (a 3 - (K : Int) - 1) (g : Int)) st else st) n su = U at ihn
        show Req a (if pcan (a 4) (xup p (a 3 - (K : Int) - 1) (n : Int)) (a 3 - (K : Int) - 1) = true then rcf a K (xup p (a 3 - (K : Int) - 1) (n : Int)) (nfold _ n st) else (nfold _ n st)) (if pcan (a 4) (xup p (a 3 - (K : Int) - 1) (n : Int)) (a 3 - (K : Int) - 1) = true then rcf a K (xup p (a 3 - (K : Int) - 1) (n : Int)) (nfold _ n su) else (nfold _ n su))
        rw [hT, hU]
        split
        · exact ih _ _ _ ihn
        · exact ihn
    exact key _
def cmay (G most : Int) (O Pc : Int → Int) (g s used : Int) : Bool := decide (s = 0 ∨ g = O (s - 1) ∨ (¬ (¬ O (s - 1) = O 0 ∧ Pc (O (s - 1)) ≤ most) ∧ (xand (xshr used g) 1 = 0 ∨ (g = O 0 ∧ used = xshl 1 G - 1))))
def RIN (a O : Int → Int) (s used : Int) (Pc : Int → Int) : Prop := (∀ i, 0 ≤ i → i < s → 0 ≤ O i ∧ O i < a 4) ∧ used = pset O s.toNat ∧ (∀ g, 0 ≤ g → g < a 4 → Pc g = psm a O g s.toNat) ∧ (pird O s.toNat = true → O (s - 1) = O 0 ∧ pum O s.toNat = a 4)
theorem pird_succ {p : Int → Int} {s : Nat} (h : 1 ≤ s) : pird p (s + 1) = true ↔ pird p s = true ∨ (p (s : Int) = p 0 ∧ ¬ p ((s : Int) - 1) = p 0) := by
  unfold pird
  rw [pany_iff, pany_iff]
  constructor
  · rintro ⟨j, j0, j1, j2⟩
    by_cases q : j = s
    · subst q; right; exact of_decide_eq_true j2
    · left; exact ⟨j, j0, by omega, j2⟩
  · rintro (⟨j, j0, j1, j2⟩ | q)
    · exact ⟨j, j0, by omega, j2⟩
    · exact ⟨s, h, by omega, decide_eq_true q⟩
theorem may_step {a O Pc : Int → Int} {s used g most : Int} {K : Nat} (hS : SO a) (h : RIN a O s used Pc) (hs : s = a 3 - (K : Int) - 1) (s0 : 0 ≤ s) (g0 : 0 ≤ g) (g1 : g < a 4) : (cmay (a 4) most O Pc g s used = true → pcan (a 4) (xup O s g) s = true ∧ RIN a (xup O s g) (s + 1) (xior used (xshl 1 g)) (xup Pc g (Pc g + pw a g s))) ∧ (¬ cmay (a 4) most O Pc g s used = true → pcan (a 4) (xup O s g) s = true → ∀ st : Int × (Int → Int), st.1 = most → rcf a K (xup O s g) st = st) := by
  obtain ⟨r1, r2, r3, r4⟩ := h
  have hn := hS.n
  have hg := hS.g
  have hcast : (((s.toNat : Nat)) : Int) = s := Int.toNat_of_nonneg s0
  have r1n : ∀ i, 0 ≤ i → i < ((s.toNat : Nat) : Int) → 0 ≤ O i ∧ O i < a 4 := by rw [hcast]; exact r1
  have hP : PIN O ((s.toNat : Nat) : Int) := fun i i0 i1 => by have := r1n i i0 i1; omega
  have hPu : PIN (xup O s g) ((s.toNat : Nat) + 1 : Int) := by
    rw [hcast]
    exact PIN_up (by rw [hcast] at hP; exact hP) g0 (by omega)
  have hag : ∀ i, 0 ≤ i → i < ((s.toNat : Nat) : Int) → xup O s g i = O i := fun i i0 i1 => xup_ne _ _ (by omega)
  have epi : pird (xup O s g) s.toNat = pird O s.toNat := pird_congr hag
  have epu : ∀ x, pus (xup O s g) x s.toNat = pus O x s.toNat := fun x => pus_congr hag
  have epm : pum (xup O s g) s.toNat = pum O s.toNat := by unfold pum; rw [pset_congr _ hag]
  have hfull := pum_G hg r1n
  have hbit := pset_bit g0 (by omega) hP
  rw [← r2] at hbit
  rw [← r2] at hfull
  have hall := fun hf => pum_all hg r1n hf g0 g1
  have hcan : (pcan (a 4) (xup O s g) s = true) ↔ (s = 0 ∨ (¬ s = 0 ∧ g = O (s - 1)) ∨ (¬ s = 0 ∧ ¬ pird O s.toNat = true ∧ (¬ pus O g s.toNat = true ∨ (g = O 0 ∧ pum O s.toNat = a 4)))) := by
    unfold pcan
    rw [decide_eq_true_eq, xup_same, epi, epu, epm]
    by_cases q : s = 0
    · exact ⟨fun _ => Or.inl q, fun _ => Or.inl q⟩
    · rw [xup_ne _ _ (show ¬ s - 1 = s by omega), xup_ne _ _ (show ¬ (0 : Int) = s by omega)]
      constructor
      · rintro (r | r | r)
        · exact Or.inl r
        · exact Or.inr (Or.inl ⟨q, r⟩)
        · exact Or.inr (Or.inr ⟨q, r⟩)
      · rintro (r | r | r)
        · exact Or.inl r
        · exact Or.inr (Or.inl r.2)
        · exact Or.inr (Or.inr r.2)
  have hmay : (cmay (a 4) most O Pc g s used = true) ↔ (s = 0 ∨ g = O (s - 1) ∨ (¬ (¬ O (s - 1) = O 0 ∧ Pc (O (s - 1)) ≤ most) ∧ (¬ pus O g s.toNat = true ∨ (g = O 0 ∧ pum O s.toNat = a 4)))) := by
    unfold cmay
    rw [decide_eq_true_eq, hbit, hfull.2.2]
  constructor
  · intro hm
    rw [hmay] at hm
    have hc : pcan (a 4) (xup O s g) s = true := by
      rw [hcan]
      by_cases q : s = 0
      · exact Or.inl q
      · by_cases q2 : g = O (s - 1)
        · exact Or.inr (Or.inl ⟨q, q2⟩)
        · rcases hm with r | r | ⟨_, r⟩
          · exact absurd r q
          · exact absurd r q2
          · refine Or.inr (Or.inr ⟨q, fun hi => ?_, r⟩)
            obtain ⟨v1, v2⟩ := r4 hi
            rcases r with r | r
            · exact r (hall v2)
            · exact q2 (by rw [v1]; exact r.1)
    refine ⟨hc, ?_, ?_, ?_, ?_⟩
    · intro i i0 i1
      by_cases q : i = s
      · rw [q, xup_same]; exact ⟨g0, g1⟩
      · rw [xup_ne _ _ q]; exact r1 i i0 (by omega)
    · rw [show (s + 1).toNat = s.toNat + 1 by omega]
      unfold pset
      rw [pset_congr _ hag, ← r2, hcast, xup_same]
    · intro x x0 x1
      rw [show (s + 1).toNat = s.toNat + 1 by omega]
      unfold psm
      rw [psm_congr _ hag, hcast, xup_same, ← r3 x x0 x1]
      by_cases q : x = g
      · subst q; rw [xup_same, if_pos rfl]
      · rw [xup_ne _ _ q, if_neg (fun e => q e.symm), Int.add_zero]
    · intro hi
      rw [show (s + 1).toNat = s.toNat + 1 by omega] at hi ⊢
      rw [show s + 1 - 1 = s by omega, xup_same]
      by_cases q : s = 0
      · exfalso
        rw [q] at hi
        exact absurd (show false = true from hi) (by decide)
      · rw [pird_succ (by omega), epi, hcast, xup_same, xup_ne _ _ (show ¬ s - 1 = s by omega), xup_ne _ _ (show ¬ (0 : Int) = s by omega)] at hi
        rw [xup_ne _ _ (show ¬ (0 : Int) = s by omega)]
        have hused : pus O g s.toNat = true → pum (xup O s g) (s.toNat + 1) = pum O s.toNat := fun hu => by
          rw [← epm]
          unfold pum
          rw [pset_used hPu (by rw [hcast, xup_same, epu]; exact hu)]
        by_cases q2 : g = O (s - 1)
        · have hu : pus O g s.toNat = true := pus_iff.mpr ⟨s.toNat - 1, by omega, by rw [show ((s.toNat - 1 : Nat) : Int) = s - 1 by omega]; exact q2.symm⟩
          rcases hi with hi | hi
          · obtain ⟨v1, v2⟩ := r4 hi
            exact ⟨by rw [q2]; exact v1, by rw [hused hu]; exact v2⟩
          · exact absurd (q2.symm.trans hi.1) hi.2
        · rw [hcan] at hc
          rcases hc with r | r | ⟨_, r1c, r⟩
          · exact absurd r q
          · exact absurd r.2 q2
          · rcases hi with hi | hi
            · exact absurd hi r1c
            · have hu : pus O g s.toNat = true := pus_iff.mpr ⟨0, by omega, hi.1.symm⟩
              rcases r with r | r
              · exact absurd hu r
              · exact ⟨hi.1, by rw [hused hu]; exact r.2⟩
  · intro hm hc st hst
    rw [hmay] at hm
    rw [hcan] at hc
    have q : ¬ s = 0 := fun e => hm (Or.inl e)
    have q2 : ¬ g = O (s - 1) := fun e => hm (Or.inr (Or.inl e))
    rcases hc with r | r | ⟨_, _, r⟩
    · exact absurd r q
    · exact absurd r.2 q2
    · have hpr : ¬ O (s - 1) = O 0 ∧ Pc (O (s - 1)) ≤ most := Classical.byContradiction fun e => hm (Or.inr (Or.inr ⟨e, r⟩))
      have hl := r1 (s - 1) (by omega) (by omega)
      refine rcf_bad hS hl.1 hl.2 K (by omega) _ _ ?_ ?_ ?_ ?_
      · rw [← hs, xup_same]; exact q2
      · exact pus_iff.mpr ⟨s.toNat - 1, by omega, by rw [show ((s.toNat - 1 : Nat) : Int) = s - 1 by omega]; exact xup_ne _ _ (by omega)⟩
      · rw [xup_ne _ _ (by omega)]; exact fun e => hpr.1 e.symm
      · rw [show (a 3 - (K : Int)).toNat = s.toNat + 1 by omega]
        unfold psm
        rw [psm_congr _ hag, hcast, xup_same, if_neg q2, Int.add_zero, ← r3 _ hl.1 hl.2, hst]
        exact hpr.2
/-! there is a round cut -/
def pgd (G : Int) (i : Int) : Int := if i < G then i else G - 1
theorem nfold_ge {a : Int → Int} {f : Nat → Int × (Int → Int) → Int × (Int → Int)} (hm : ∀ k st, (-1 ≤ st.1 ∧ st.1 ≤ 810) → (-1 ≤ (f k st).1 ∧ (f k st).1 ≤ 810) ∧ st.1 ≤ (f k st).1) {g : Nat} (hg : ∀ st, (-1 ≤ st.1 ∧ st.1 ≤ 810) → 0 ≤ (f g st).1) : ∀ (n : Nat) (st : Int × (Int → Int)), (-1 ≤ st.1 ∧ st.1 ≤ 810) → (-1 ≤ (nfold f n st).1 ∧ (nfold f n st).1 ≤ 810) ∧ (g < n → 0 ≤ (nfold f n st).1) := by
  intro n
  induction n with
  | zero => intro st h; exact ⟨h, fun q => by omega⟩
  | succ n ih =>
    intro st h
    obtain ⟨i1, i2⟩ := ih st h
    have h1 := hm n (nfold f n st) i1
    show (-1 ≤ (f n (nfold f n st)).1 ∧ (f n (nfold f n st)).1 ≤ 810) ∧ (g < n + 1 → 0 ≤ (f n (nfold f n st)).1)
    refine ⟨h1.1, fun q => ?_⟩
    by_cases e : g = n
    · rw [← e]
      exact hg _ (by rw [e]; exact i1)
    · have := i2 (by omega)
      omega
theorem pgd_set : (List.range 6).all (fun G => decide (G = 0) || (List.range 11).all (fun s => decide (psetN (pgd (G : Int)) s + 1 = 2 ^ (min s G)))) = true := by decide +kernel
theorem pgd_um {G : Int} (h1 : 1 ≤ G) (h2 : G ≤ 5) {p : Int → Int} {s : Nat} (hs : s ≤ 10) (hG : G ≤ (s : Int)) (hp : ∀ i, 0 ≤ i → i < (s : Int) → p i = pgd G i) : pum p s = G := by
  have hr : ∀ i, 0 ≤ i → i < (s : Int) → 0 ≤ p i ∧ p i < G := fun i i0 i1 => by
    rw [hp i i0 i1]
    unfold pgd
    split <;> omega
  rw [(pum_G ⟨by omega, h2⟩ hr).2.2, pset_congr _ hp]
  have hP : PIN (pgd G) (s : Int) := fun i i0 i1 => by have := hr i i0 i1; rw [hp i i0 i1] at this; omega
  rw [pset_N _ hP]
  have := List.all_eq_true.mp pgd_set G.toNat (List.mem_range.mpr (by omega))
  simp only [Bool.or_eq_true, decide_eq_true_eq] at this
  rcases this with q | q
  · omega
  · have := of_decide_eq_true (List.all_eq_true.mp q s (List.mem_range.mpr (by omega)))
    rw [Int.toNat_of_nonneg (by omega), Nat.min_eq_right (by omega)] at this
    have e : xshl 1 G = ((2 ^ G.toNat : Nat) : Int) := by
      have := xshl_n (j := G.toNat) (by omega)
      rw [Int.toNat_of_nonneg (by omega)] at this
      exact this
    rw [e]
    omega
theorem pgd_can {G : Int} (h1 : 1 ≤ G) {p : Int → Int} {s : Int} (s0 : 0 ≤ s) (hp : ∀ i, 0 ≤ i → i < s → p i = pgd G i) : pcan G (xup p s (pgd G s)) s = true := by
  unfold pcan
  rw [decide_eq_true_eq, xup_same]
  by_cases q : s = 0
  · exact Or.inl q
  · right
    rw [xup_ne _ _ (show ¬ s - 1 = s by omega), xup_ne _ _ (show ¬ (0 : Int) = s by omega), hp (s - 1) (by omega) (by omega), hp 0 (by omega) (by omega)]
    by_cases q2 : s < G
    · right
      refine ⟨?_, Or.inl ?_⟩
      · unfold pird
        rw [pany_iff]
        rintro ⟨j, j0, j1, j2⟩
        have j3 := of_decide_eq_true j2
        rw [xup_ne _ _ (show ¬ (j : Int) = s by omega), xup_ne _ _ (show ¬ (0 : Int) = s by omega), xup_ne _ _ (show ¬ (j : Int) - 1 = s by omega), hp _ (by omega) (by omega), hp 0 (by omega) (by omega), hp _ (by omega) (by omega)] at j3
        unfold pgd at j3
        rw [if_pos (by omega), if_pos (by omega), if_pos (by omega)] at j3
        omega
      · rw [pus_iff]
        rintro ⟨i, i0, i1⟩
        rw [xup_ne _ _ (by omega), hp _ (by omega) (by omega)] at i1
        unfold pgd at i1
        rw [if_pos (by omega), if_pos q2] at i1
        omega
    · left
      unfold pgd
      rw [if_neg q2]
      split <;> omega
theorem rcf_some {a : Int → Int} (hS : SO a) (h1 : 1 ≤ a 4) (h2 : a 4 ≤ a 3) : ∀ (K : Nat), (K : Int) ≤ a 3 → ∀ (p : Int → Int) (st : Int × (Int → Int)), (-1 ≤ st.1 ∧ st.1 ≤ 810) → (∀ i, 0 ≤ i → i < a 3 - (K : Int) → p i = pgd (a 4) i) → 0 ≤ (rcf a K p st).1 := by
  intro K
  have hn := hS.n
  have hg := hS.g
  induction K with
  | zero =>
    intro _ p st hr hp
    have h3 := pgd_um h1 hg.2 (p := p) (s := (a 3).toNat) (by omega) (by omega) (fun i i0 i1 => hp i i0 (by omega))
    have h4 := plst_rg (p := p) hS (a 4).toNat (by omega)
    unfold rcf rkp
    rw [if_pos h3]
    split
    · omega
    · show 0 ≤ plst a p (a 4).toNat
      omega
  | succ K ih =>
    intro hK p st hr hp
    have es : a 3 - ((K + 1 : Nat) : Int) = a 3 - (K : Int) - 1 := by omega
    rw [es] at hp
    unfold rcf
    have hgd : 0 ≤ pgd (a 4) (a 3 - (K : Int) - 1) ∧ pgd (a 4) (a 3 - (K : Int) - 1) < a 4 := by
      unfold pgd
      split <;> omega
    refine (nfold_ge (a := a) (g := (pgd (a 4) (a 3 - (K : Int) - 1)).toNat) ?_ ?_ (a 4).toNat st hr).2 (by omega)
    · intro k st hst
      show (-1 ≤ (if _ then _ else _ : Int × (Int → Int)).1 ∧ _) ∧ _
      split
      · exact rcf_rg hS _ _ _ hst
      · exact ⟨hst, Int.le_refl _⟩
    · intro st hst
      show 0 ≤ (if _ then _ else _ : Int × (Int → Int)).1
      rw [Int.toNat_of_nonneg hgd.1, if_pos (pgd_can h1 (by omega) hp)]
      refine ih (by omega) _ _ hst (fun i i0 i1 => ?_)
      by_cases q : i = a 3 - (K : Int) - 1
      · rw [q, xup_same]
      · rw [xup_ne _ _ q]; exact hp i i0 (by omega)
