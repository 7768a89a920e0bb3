theorem cfs_ne (G : Int → Bool) : ∀ m : Nat, ¬ cfs G m = 0 → ∃ i : Nat, i < m ∧ G ((i : Int) - 1) = true := by
  intro m
  induction m with
  | zero => intro h; exact absurd rfl h
  | succ m ih =>
    intro h
    unfold cfs at h
    by_cases q : G ((m : Int) - 1) = true
    · exact ⟨m, by omega, q⟩
    · rw [if_neg q] at h
      obtain ⟨i, hi, hg⟩ := ih h
      exact ⟨i, by omega, hg⟩
theorem cfs_z (G : Int → Bool) {m : Nat} (hm : m ≤ 10) (h : cfs G m = 0) : ∀ i : Nat, i < m → ¬ G ((i : Int) - 1) = true := by
  intro i hi hg
  rw [cfs_N G m hm] at h
  have e := cfsN_bit G m i hi
  rw [show cfsN G m = 0 by omega, hg] at e
  simp at e
theorem wse_at {fi : Int} {G : Int → (Int → Int)} {se : Int → Int} {i : Nat} {s : Int} (hs : 0 ≤ s ∧ s < 10) (hb : ¬ xand (xshr fi (i : Int)) 1 = 0) : ∀ m : Nat, i < m → wse fi G se m ((i : Int) * 10 + s) = G (i : Int) (11 + s) := by
  intro m
  induction m with
  | zero => intro h; omega
  | succ m ih =>
    intro h
    unfold wse
    by_cases q : i = m
    · subst q
      rw [if_neg hb, xcp_in (by omega), show (0 : Int) + ((i : Int) * 10 + s - (i : Int) * 10) = s by omega]
    · split
      · exact ih (by omega)
      · rw [xcp_out (by omega)]; exact ih (by omega)
theorem pwtn_at {sg cl cn : Int → Int} {kk : Int} {a w : Int → Int} {th : Int} {i : Nat} {s : Int} (hs : 0 ≤ s ∧ s < 10) : ∀ m : Nat, i < m → pwtn sg cl cn kk a th w m (10 * (i : Int) + s) = prn sg cl cn kk a (i : Int) (th + 1).toNat (11 + s) := by
  intro m
  induction m with
  | zero => intro h; omega
  | succ m ih =>
    intro h
    unfold pwtn
    by_cases q : i = m
    · subst q
      rw [xcp_in (by omega), show (11 : Int) + (10 * (i : Int) + s - 10 * (i : Int)) = 11 + s by omega]
    · rw [xcp_out (by omega)]; exact ih (by omega)
theorem mal_stop {fi : Int} {se : Int → Int} {s g : Int} {n : Nat} (hz : ∀ i : Nat, n < i → i ≤ 6 → xand (xshr fi (i : Int)) 1 = 0) : ∀ m : Nat, n + 1 ≤ m → m ≤ 7 → mal fi se s g m = mal fi se s g (n + 1) := by
  intro m
  induction m with
  | zero => intro h; omega
  | succ m ih =>
    intro h h7
    by_cases q : m = n
    · rw [q]
    · have e : mal fi se s g (m + 1) = if ¬ xand (xshr fi (m : Int)) 1 = 0 ∧ se ((m : Int) * 10 + s) = g then mal fi se s g m + 1 else mal fi se s g m := rfl
      rw [e, if_neg (fun r => r.1 (hz m (by omega) (by omega)))]
      exact ih (by omega) (by omega)
theorem pal1_mal {fi : Int} {F T se : Int → Int} {s x : Int} {n : Nat} (hs : 0 ≤ s ∧ s < 10) (hb : ∀ i : Nat, i ≤ n → (F (i : Int) = 0 ↔ xand (xshr fi (i : Int)) 1 = 0)) (hse : ∀ i : Nat, i ≤ n → ¬ F (i : Int) = 0 → ∀ s, 0 ≤ s → s < 10 → se ((i : Int) * 10 + s) = T (10 * (i : Int) + s)) : ∀ b : Nat, b ≤ n + 1 → pal1 F T s x b = mal fi se s (T (10 * x + s)) b := by
  intro b
  induction b with
  | zero => intro _; rfl
  | succ b ih =>
    intro h
    have e1 : pal1 F T s x (b + 1) = pal1 F T s x b + (if ¬ F (b : Int) = 0 ∧ T (10 * x + s) = T (10 * (b : Int) + s) then 1 else 0) := rfl
    have e2 : mal fi se s (T (10 * x + s)) (b + 1) = if ¬ xand (xshr fi (b : Int)) 1 = 0 ∧ se ((b : Int) * 10 + s) = T (10 * x + s) then mal fi se s (T (10 * x + s)) b + 1 else mal fi se s (T (10 * x + s)) b := rfl
    have hbb := hb b (by omega)
    rw [e1, e2, ih (by omega)]
    by_cases q : F (b : Int) = 0
    · rw [if_neg (fun r => r.1 q), if_neg (fun r => r.1 (hbb.mp q))]; omega
    · rw [hse b (by omega) q s hs.1 hs.2]
      by_cases q2 : T (10 * x + s) = T (10 * (b : Int) + s)
      · rw [if_pos ⟨q, q2⟩, if_pos ⟨fun r => q (hbb.mpr r), q2.symm⟩]
      · rw [if_neg (fun r => q2 r.2), if_neg (fun r => q2 r.2.symm)]; omega
theorem mal_pos {fi : Int} {se : Int → Int} {s g : Int} : ∀ m : Nat, 0 < mal fi se s g m → ∃ i : Nat, i < m ∧ ¬ xand (xshr fi (i : Int)) 1 = 0 ∧ se ((i : Int) * 10 + s) = g := by
  intro m
  induction m with
  | zero => intro h; exact absurd h (by show ¬ (0 : Int) < 0; decide)
  | succ m ih =>
    intro h
    unfold mal at h
    by_cases q : ¬ xand (xshr fi (m : Int)) 1 = 0 ∧ se ((m : Int) * 10 + s) = g
    · exact ⟨m, by omega, q⟩
    · rw [if_neg q] at h
      obtain ⟨i, hi, hh⟩ := ih h
      exact ⟨i, by omega, hh⟩
theorem palk_ge {F T : Int → Int} {s rs : Int} {x : Nat} : ∀ m : Nat, x < m → paln F T s rs (x : Int) ≤ palk F T s rs m := by
  intro m
  induction m with
  | zero => intro h; omega
  | succ m ih =>
    intro h
    unfold palk
    by_cases q : x = m
    · subst q; split <;> omega
    · have := ih (by omega)
      split <;> omega
theorem palk_le {F T : Int → Int} {s rs B : Int} (hB : 0 ≤ B) : ∀ m : Nat, (∀ x : Nat, x < m → paln F T s rs (x : Int) ≤ B) → palk F T s rs m ≤ B := by
  intro m
  induction m with
  | zero => intro _; exact hB
  | succ m ih =>
    intro h
    have h1 := ih (fun x hx => h x (by omega))
    have h2 := h m (by omega)
    unfold palk
    split <;> omega
theorem mst_ge {fi : Int} {se : Int → Int} {s : Int} {k : Nat} : ∀ m : Nat, k < m → mal fi se s ((k : Int) - 1) 7 ≤ mst fi se s m := by
  intro m
  induction m with
  | zero => intro h; omega
  | succ m ih =>
    intro h
    unfold mst
    by_cases q : k = m
    · subst q; split <;> omega
    · have := ih (by omega)
      split <;> omega
theorem mst_le {fi : Int} {se : Int → Int} {s B : Int} (hB : 0 ≤ B) : ∀ m : Nat, (∀ k : Nat, k < m → mal fi se s ((k : Int) - 1) 7 ≤ B) → mst fi se s m ≤ B := by
  intro m
  induction m with
  | zero => intro _; exact hB
  | succ m ih =>
    intro h
    have h1 := ih (fun x hx => h x (by omega))
    have h2 := h m (by omega)
    unfold mst
    split <;> omega
theorem pal1_self {F T : Int → Int} {s : Int} {i : Nat} (h : ¬ F (i : Int) = 0) : ∀ m : Nat, i < m → 0 < pal1 F T s (i : Int) m := by
  intro m
  induction m with
  | zero => intro h; omega
  | succ m ih =>
    intro hm
    have h0 := (pal1_rg F T s (i : Int) m).1
    have e1 : pal1 F T s (i : Int) (m + 1) = pal1 F T s (i : Int) m + (if ¬ F (m : Int) = 0 ∧ T (10 * (i : Int) + s) = T (10 * (m : Int) + s) then 1 else 0) := rfl
    rw [e1]
    by_cases q : i = m
    · subst q
      rw [if_pos ⟨h, rfl⟩]; omega
    · have := ih (by omega)
      split <;> omega
theorem palike_mst {fi : Int} {F T se : Int → Int} {s G : Int} {n : Nat} (hn : n ≤ 6) (hG : 0 ≤ G) (hs : 0 ≤ s ∧ s < 10) (hb : ∀ i : Nat, i ≤ n → (F (i : Int) = 0 ↔ xand (xshr fi (i : Int)) 1 = 0)) (hz : ∀ i : Nat, n < i → i ≤ 6 → xand (xshr fi (i : Int)) 1 = 0) (hse : ∀ i : Nat, i ≤ n → ¬ F (i : Int) = 0 → ∀ s, 0 ≤ s → s < 10 → se ((i : Int) * 10 + s) = T (10 * (i : Int) + s)) (hT : ∀ i : Nat, i ≤ n → ∀ s, 0 ≤ s → s < 10 → -1 ≤ T (10 * (i : Int) + s) ∧ T (10 * (i : Int) + s) < G) : palike F T s (n : Int) = mst fi se s (G + 1).toNat := by
  have en : ((n : Int) + 1).toNat = n + 1 := by omega
  have hp : ∀ x : Nat, x ≤ n → ¬ F (x : Int) = 0 → paln F T s (n : Int) (x : Int) = mal fi se s (T (10 * (x : Int) + s)) 7 := by
    intro x hx hf
    unfold paln
    rw [if_neg hf, en, pal1_mal hs hb hse (n + 1) (Nat.le_refl _), mal_stop hz 7 (by omega) (by omega)]
  apply Int.le_antisymm
  · refine palk_le (mst_rg fi se s _).1 _ (fun x hx => ?_)
    rw [en] at hx
    by_cases q : F (x : Int) = 0
    · unfold paln; rw [if_pos q]; exact (mst_rg fi se s _).1
    · have ht := hT x (by omega) s hs.1 hs.2
      rw [hp x (by omega) q]
      have := mst_ge (fi := fi) (se := se) (s := s) (k := (T (10 * (x : Int) + s) + 1).toNat) (G + 1).toNat (by omega)
      rw [show (((T (10 * (x : Int) + s) + 1).toNat : Nat) : Int) - 1 = T (10 * (x : Int) + s) by omega] at this
      exact this
  · refine mst_le (palike_rg F T s (by omega)).1 _ (fun k hk => ?_)
    by_cases q : 0 < mal fi se s ((k : Int) - 1) 7
    · rw [mal_stop hz 7 (by omega) (by omega)] at q
      obtain ⟨i, hi, h1, h2⟩ := mal_pos _ q
      have hf : ¬ F (i : Int) = 0 := fun r => h1 ((hb i (by omega)).mp r)
      rw [hse i (by omega) hf s hs.1 hs.2] at h2
      rw [← h2, ← hp i (by omega) hf]
      exact palk_ge _ (by omega)
    · have := (palike_rg F T s (rs := (n : Int)) (by omega)).1
      omega
theorem look_eq {fi : Int} {F T se : Int → Int} {G : Int} {n : Nat} (hn : n ≤ 6) (hG : 0 ≤ G) (hb : ∀ i : Nat, i ≤ n → (F (i : Int) = 0 ↔ xand (xshr fi (i : Int)) 1 = 0)) (hz : ∀ i : Nat, n < i → i ≤ 6 → xand (xshr fi (i : Int)) 1 = 0) (hse : ∀ i : Nat, i ≤ n → ¬ F (i : Int) = 0 → ∀ s, 0 ≤ s → s < 10 → se ((i : Int) * 10 + s) = T (10 * (i : Int) + s)) (hT : ∀ i : Nat, i ≤ n → ∀ s, 0 ≤ s → s < 10 → -1 ≤ T (10 * (i : Int) + s) ∧ T (10 * (i : Int) + s) < G) (hx : ∃ i : Nat, i ≤ n ∧ ¬ F (i : Int) = 0) : ∀ m : Nat, m ≤ 10 → plk F T (n : Int) m = clk fi se (G + 1).toNat m ∧ ((plk F T (n : Int) m).1 = -2 ∨ 0 ≤ (plk F T (n : Int) m).1) := by
  obtain ⟨i, hi, hf⟩ := hx
  intro m
  induction m with
  | zero => intro _; exact ⟨rfl, Or.inl rfl⟩
  | succ m ih =>
    intro hm
    obtain ⟨e, h2⟩ := ih (by omega)
    have hp : 0 < palike F T (m : Int) (n : Int) := by
      have h1 := palk_ge (F := F) (T := T) (s := (m : Int)) (rs := (n : Int)) (x := i) ((n : Int) + 1).toNat (by omega)
      have h3 := pal1_self (T := T) (s := (m : Int)) hf ((n : Int) + 1).toNat (by omega)
      unfold paln at h1
      rw [if_neg hf] at h1
      unfold palike
      omega
    have em := palike_mst (s := (m : Int)) hn hG (by omega) hb hz hse hT
    have e1 : plk F T (n : Int) (m + 1) = if palike F T (m : Int) (n : Int) = 0 ∨ (0 ≤ (plk F T (n : Int) m).1 ∧ (plk F T (n : Int) m).2 ≤ palike F T (m : Int) (n : Int)) then plk F T (n : Int) m else ((m : Int), palike F T (m : Int) (n : Int)) := rfl
    have e2 : clk fi se (G + 1).toNat (m + 1) = if (clk fi se (G + 1).toNat m).1 = -2 ∨ mst fi se (m : Int) (G + 1).toNat < (clk fi se (G + 1).toNat m).2 then ((m : Int), mst fi se (m : Int) (G + 1).toNat) else clk fi se (G + 1).toNat m := rfl
    rw [e2, ← e, ← em, e1]
    by_cases q : 0 ≤ (plk F T (n : Int) m).1 ∧ (plk F T (n : Int) m).2 ≤ palike F T (m : Int) (n : Int)
    · rw [if_pos (Or.inr q), if_neg (by omega)]
      exact ⟨rfl, h2⟩
    · rw [if_neg (by omega), if_pos (by omega)]
      exact ⟨rfl, Or.inr (by show (0 : Int) ≤ (m : Int); omega)⟩
theorem look_none {F T : Int → Int} {n : Nat} (hn : n ≤ 6) (h : ∀ i : Nat, i ≤ n → F (i : Int) = 0) : ∀ m : Nat, plk F T (n : Int) m = (-2, -2) := by
  intro m
  induction m with
  | zero => rfl
  | succ m ih =>
    have hz : palike F T (m : Int) (n : Int) = 0 := by
      have h1 := (palike_rg F T (m : Int) (rs := (n : Int)) (by omega)).1
      have h2 : palike F T (m : Int) (n : Int) ≤ 0 := palk_le (Int.le_refl 0) _ (fun x hx => by
        unfold paln
        rw [if_pos (h x (by omega))]
        exact Int.le_refl 0)
      omega
    have e1 : plk F T (n : Int) (m + 1) = if palike F T (m : Int) (n : Int) = 0 ∨ (0 ≤ (plk F T (n : Int) m).1 ∧ (plk F T (n : Int) m).2 ≤ palike F T (m : Int) (n : Int)) then plk F T (n : Int) m else ((m : Int), palike F T (m : Int) (n : Int)) := rfl
    rw [e1, if_pos (Or.inl hz)]
    exact ih
