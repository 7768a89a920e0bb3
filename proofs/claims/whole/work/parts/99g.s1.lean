/-! sums, pure -/
def vfl (b : Int → Int) (n q k : Int) : Int := if dgt b n q = true then (if tnv b n q < 0 then 1 + 8 * q + 1 else if k = 60 then 1 + 8 * q + 3 else 0) else if 0 ≤ tw b n q ∧ tw b n q < 12 then (if k = 60 then 1 + 8 * q + 3 else 0) else 1 + 8 * q + 0
def vcd (b : Int → Int) (n q : Int) : Int := if dgt b n q = true then 0 + 16 * tnv b n q else 1 + 16 * tw b n q
def vnd (b : Int → Int) (n q : Int) : Int := if dgt b n q = true then de_ b n q else le_ b n q
def opc (c : Int) : Int := if c = 43 then 2 else if c = 45 then 3 else if c = 42 then 4 else if c = 47 then 5 else if c = 37 then 14 else -1
def opcl (o : Int) : Bool := decide (o = 4 ∨ o = 5 ∨ o = 14)
def opl (o : Int) : List Int := if o = -1 then [] else [o]
/-- behind a value of a term: fault, place, parts, code -/
def tmr (b : Int → Int) (n : Int) : Nat → Int → Int → Int × Int × Int × List Int
  | 0, p, k => (0, sk b n p, k, [])
  | r + 1, p, k => if opcl (opc (tc b n (sk b n p))) = true then (if ¬ vfl b n (sk b n (sk b n p + 1)) k = 0 then (vfl b n (sk b n (sk b n p + 1)) k, sk b n p, k, []) else ((tmr b n r (vnd b n (sk b n (sk b n p + 1))) (k + 1)).1, (tmr b n r (vnd b n (sk b n (sk b n p + 1))) (k + 1)).2.1, (tmr b n r (vnd b n (sk b n (sk b n p + 1))) (k + 1)).2.2.1, vcd b n (sk b n (sk b n p + 1)) :: opc (tc b n (sk b n p)) :: (tmr b n r (vnd b n (sk b n (sk b n p + 1))) (k + 1)).2.2.2)) else (0, sk b n p, k, [])
def tm (b : Int → Int) (n p k : Int) : Int × Int × Int × List Int := if ¬ vfl b n (sk b n p) k = 0 then (vfl b n (sk b n p) k, sk b n p, k, []) else ((tmr b n (60 - k).toNat (vnd b n (sk b n p)) (k + 1)).1, (tmr b n (60 - k).toNat (vnd b n (sk b n p)) (k + 1)).2.1, (tmr b n (60 - k).toNat (vnd b n (sk b n p)) (k + 1)).2.2.1, vcd b n (sk b n p) :: (tmr b n (60 - k).toNat (vnd b n (sk b n p)) (k + 1)).2.2.2)
/-- behind a term of a sum -/
def smr (b : Int → Int) (n : Int) : Nat → Int → Int → Int × Int × Int × List Int
  | 0, p, k => (0, sk b n p, k, [])
  | r + 1, p, k => if opc (tc b n (sk b n p)) = 2 ∨ opc (tc b n (sk b n p)) = 3 then (if ¬ (tm b n (sk b n p + 1) k).1 = 0 then ((tm b n (sk b n p + 1) k).1, sk b n p, k, []) else ((smr b n r (tm b n (sk b n p + 1) k).2.1 (tm b n (sk b n p + 1) k).2.2.1).1, (smr b n r (tm b n (sk b n p + 1) k).2.1 (tm b n (sk b n p + 1) k).2.2.1).2.1, (smr b n r (tm b n (sk b n p + 1) k).2.1 (tm b n (sk b n p + 1) k).2.2.1).2.2.1, (tm b n (sk b n p + 1) k).2.2.2 ++ opc (tc b n (sk b n p)) :: (smr b n r (tm b n (sk b n p + 1) k).2.1 (tm b n (sk b n p + 1) k).2.2.1).2.2.2)) else (0, sk b n p, k, [])
def sm (b : Int → Int) (n p k : Int) : Int × Int × Int × List Int := if ¬ (tm b n p k).1 = 0 then ((tm b n p k).1, sk b n p, k, []) else ((smr b n (60 - k).toNat (tm b n p k).2.1 (tm b n p k).2.2.1).1, (smr b n (60 - k).toNat (tm b n p k).2.1 (tm b n p k).2.2.1).2.1, (smr b n (60 - k).toNat (tm b n p k).2.1 (tm b n p k).2.2.1).2.2.1, (tm b n p k).2.2.2 ++ (smr b n (60 - k).toNat (tm b n p k).2.1 (tm b n p k).2.2.1).2.2.2)
theorem vnd_in {b : Int → Int} {n q k : Int} (h : vfl b n q k = 0) (q0 : 0 ≤ q) (qn : q ≤ n) : q < vnd b n q ∧ vnd b n q ≤ n := by
  have h1 := de_all (b := b) (n := n) (p := q)
  have h2 := le_all (b := b) (n := n) (p := q)
  unfold vfl at h
  unfold vnd
  by_cases d : dgt b n q = true
  · rw [if_pos d]
    have : ¬ de_ b n q = q := fun e => h1.2.2 (by rw [e]; exact d)
    have := h1.1.2 qn
    omega
  · rw [if_neg d] at h ⊢
    by_cases t : 0 ≤ tw b n q ∧ tw b n q < 12
    · have : 0 < le_ b n q - q := by
        have t0 := t.1
        unfold tw at t0
        by_cases r : 0 < le_ b n q - q ∧ le_ b n q - q < 8
        · exact r.1
        · rw [if_neg r] at t0; omega
      have := h2.1.2 qn
      omega
    · rw [if_neg t] at h; omega
theorem vfl_rg {b : Int → Int} {n q k : Int} (q0 : 0 ≤ q) (q1 : q ≤ 400) : 0 ≤ vfl b n q k ∧ vfl b n q k ≤ 10000 := by
  unfold vfl
  (repeat' split) <;> omega
theorem vfl_k {b : Int → Int} {n q k : Int} (h : vfl b n q k = 0) (q0 : 0 ≤ q) : ¬ k = 60 := by
  intro e
  unfold vfl at h
  rw [if_pos e] at h
  by_cases d : dgt b n q = true
  · rw [if_pos d] at h
    by_cases t : tnv b n q < 0
    · rw [if_pos t] at h; omega
    · rw [if_neg t] at h; omega
  · rw [if_neg d] at h
    by_cases t : 0 ≤ tw b n q ∧ tw b n q < 12
    · rw [if_pos t] at h; omega
    · rw [if_neg t] at h; omega
theorem opc_lt {b : Int → Int} {n p : Int} (h : ¬ opc (tc b n p) = -1) : p < n := by
  refine Classical.byContradiction fun r => h ?_
  rw [tc_end r]
  decide
theorem opcl_ne {o : Int} (h : opcl o = true) : ¬ o = -1 := by
  intro e
  rw [e] at h
  exact absurd h (by decide)
theorem tmr_in {b : Int → Int} {n : Int} (h4 : n ≤ 400) : ∀ (r : Nat) (p k : Int), 0 ≤ p → p ≤ n → 0 ≤ k → k ≤ 60 → (0 ≤ (tmr b n r p k).1 ∧ (tmr b n r p k).1 ≤ 10000) ∧ ((tmr b n r p k).1 = 0 → (p ≤ (tmr b n r p k).2.1 ∧ (tmr b n r p k).2.1 ≤ n) ∧ (k ≤ (tmr b n r p k).2.2.1 ∧ (tmr b n r p k).2.2.1 ≤ 60) ∧ ((tmr b n r p k).2.2.2.length : Int) ≤ (tmr b n r p k).2.1 - p) := by
  intro r
  induction r with
  | zero =>
    intro p k p0 pn k0 k6
    have hs := sk_in (b := b) pn
    exact ⟨⟨Int.le_refl _, by show (0 : Int) ≤ 10000; decide⟩, fun _ => ⟨hs, ⟨Int.le_refl _, k6⟩, by show ((0 : Nat) : Int) ≤ sk b n p - p; omega⟩⟩
  | succ r ih =>
    intro p k p0 pn k0 k6
    have hs := sk_in (b := b) pn
    unfold tmr
    by_cases c : opcl (opc (tc b n (sk b n p))) = true
    · rw [if_pos c]
      have hlt := opc_lt (opcl_ne c)
      have hs2 := sk_in (b := b) (p := sk b n p + 1) (n := n) (by omega)
      have hv := vfl_rg (b := b) (n := n) (q := sk b n (sk b n p + 1)) (k := k) (by omega) (by omega)
      by_cases w : vfl b n (sk b n (sk b n p + 1)) k = 0
      · rw [if_neg (fun r => r w)]
        have he := vnd_in w (by omega) (by omega)
        have hk := vfl_k w (by omega)
        have i1 := ih (vnd b n (sk b n (sk b n p + 1))) (k + 1) (by omega) (by omega) (by omega) (by omega)
        generalize tmr b n r (vnd b n (sk b n (sk b n p + 1))) (k + 1) = R at i1 ⊢
        refine ⟨i1.1, fun hz => ?_⟩
        obtain ⟨j1, j2, j3⟩ := i1.2 hz
        refine ⟨⟨by show p ≤ R.2.1; omega, j1.2⟩, ⟨by show k ≤ R.2.2.1; omega, by show R.2.2.1 ≤ _; omega⟩, ?_⟩
        show ((R.2.2.2.length + 1 + 1 : Nat) : Int) ≤ R.2.1 - p
        omega
      · rw [if_pos w]
        exact ⟨hv, fun h => absurd h w⟩
    · rw [if_neg c]
      exact ⟨⟨Int.le_refl _, by show (0 : Int) ≤ 10000; decide⟩, fun _ => ⟨hs, ⟨Int.le_refl _, k6⟩, by show ((0 : Nat) : Int) ≤ sk b n p - p; omega⟩⟩
theorem tm_in {b : Int → Int} {n p k : Int} (h4 : n ≤ 400) (p0 : 0 ≤ p) (pn : p ≤ n) (k0 : 0 ≤ k) (k6 : k ≤ 60) : (0 ≤ (tm b n p k).1 ∧ (tm b n p k).1 ≤ 10000) ∧ ((tm b n p k).1 = 0 → (p < (tm b n p k).2.1 ∧ (tm b n p k).2.1 ≤ n) ∧ (k < (tm b n p k).2.2.1 ∧ (tm b n p k).2.2.1 ≤ 60) ∧ ((tm b n p k).2.2.2.length : Int) ≤ (tm b n p k).2.1 - p) := by
  have hs := sk_in (b := b) pn
  have hv := vfl_rg (b := b) (n := n) (q := sk b n p) (k := k) (by omega) (by omega)
  unfold tm
  by_cases w : vfl b n (sk b n p) k = 0
  · rw [if_neg (fun r => r w)]
    have he := vnd_in w (by omega) (by omega)
    have hk := vfl_k w (by omega)
    have i1 := tmr_in (b := b) h4 (60 - k).toNat (vnd b n (sk b n p)) (k + 1) (by omega) (by omega) (by omega) (by omega)
    generalize tmr b n (60 - k).toNat (vnd b n (sk b n p)) (k + 1) = R at i1 ⊢
    refine ⟨i1.1, fun hz => ?_⟩
    obtain ⟨j1, j2, j3⟩ := i1.2 hz
    refine ⟨⟨by show p < R.2.1; omega, j1.2⟩, ⟨by show k < R.2.2.1; omega, by show R.2.2.1 ≤ 60; omega⟩, ?_⟩
    show ((R.2.2.2.length + 1 : Nat) : Int) ≤ R.2.1 - p
    omega
  · rw [if_pos w]
    exact ⟨hv, fun h => absurd h w⟩
theorem smr_in {b : Int → Int} {n : Int} (h4 : n ≤ 400) : ∀ (r : Nat) (p k : Int), 0 ≤ p → p ≤ n → 0 ≤ k → k ≤ 60 → (0 ≤ (smr b n r p k).1 ∧ (smr b n r p k).1 ≤ 10000) ∧ ((smr b n r p k).1 = 0 → (p ≤ (smr b n r p k).2.1 ∧ (smr b n r p k).2.1 ≤ n) ∧ (k ≤ (smr b n r p k).2.2.1 ∧ (smr b n r p k).2.2.1 ≤ 60) ∧ ((smr b n r p k).2.2.2.length : Int) ≤ (smr b n r p k).2.1 - p) := by
  intro r
  induction r with
  | zero =>
    intro p k p0 pn k0 k6
    have hs := sk_in (b := b) pn
    exact ⟨⟨Int.le_refl _, by show (0 : Int) ≤ 10000; decide⟩, fun _ => ⟨hs, ⟨Int.le_refl _, k6⟩, by show ((0 : Nat) : Int) ≤ sk b n p - p; omega⟩⟩
  | succ r ih =>
    intro p k p0 pn k0 k6
    have hs := sk_in (b := b) pn
    unfold smr
    by_cases c : opc (tc b n (sk b n p)) = 2 ∨ opc (tc b n (sk b n p)) = 3
    · rw [if_pos c]
      have hlt := opc_lt (b := b) (n := n) (p := sk b n p) (by omega)
      have hT := tm_in (b := b) (n := n) (p := sk b n p + 1) (k := k) h4 (by omega) (by omega) k0 k6
      generalize tm b n (sk b n p + 1) k = T at hT ⊢
      by_cases w : T.1 = 0
      · rw [if_neg (fun r => r w)]
        obtain ⟨t1, t2, t3⟩ := hT.2 w
        have i1 := ih T.2.1 T.2.2.1 (by omega) (by omega) (by omega) (by omega)
        generalize smr b n r T.2.1 T.2.2.1 = R at i1 ⊢
        refine ⟨i1.1, fun hz => ?_⟩
        obtain ⟨j1, j2, j3⟩ := i1.2 hz
        refine ⟨⟨by show p ≤ R.2.1; omega, j1.2⟩, ⟨by show k ≤ R.2.2.1; omega, by show R.2.2.1 ≤ 60; omega⟩, ?_⟩
        show ((T.2.2.2 ++ opc (tc b n (sk b n p)) :: R.2.2.2).length : Int) ≤ R.2.1 - p
        rw [List.length_append, List.length_cons]
        omega
      · rw [if_pos w]
        exact ⟨hT.1, fun h => absurd h w⟩
    · rw [if_neg c]
      exact ⟨⟨Int.le_refl _, by show (0 : Int) ≤ 10000; decide⟩, fun _ => ⟨hs, ⟨Int.le_refl _, k6⟩, by show ((0 : Nat) : Int) ≤ sk b n p - p; omega⟩⟩
theorem sm_in {b : Int → Int} {n p k : Int} (h4 : n ≤ 400) (p0 : 0 ≤ p) (pn : p ≤ n) (k0 : 0 ≤ k) (k6 : k ≤ 60) : (0 ≤ (sm b n p k).1 ∧ (sm b n p k).1 ≤ 10000) ∧ ((sm b n p k).1 = 0 → (p < (sm b n p k).2.1 ∧ (sm b n p k).2.1 ≤ n) ∧ (k < (sm b n p k).2.2.1 ∧ (sm b n p k).2.2.1 ≤ 60) ∧ ((sm b n p k).2.2.2.length : Int) ≤ (sm b n p k).2.1 - p) := by
  have hT := tm_in (b := b) (n := n) (p := p) (k := k) h4 p0 pn k0 k6
  unfold sm
  generalize tm b n p k = T at hT ⊢
  by_cases w : T.1 = 0
  · rw [if_neg (fun r => r w)]
    obtain ⟨t1, t2, t3⟩ := hT.2 w
    have i1 := smr_in (b := b) h4 (60 - k).toNat T.2.1 T.2.2.1 (by omega) (by omega) (by omega) (by omega)
    generalize smr b n (60 - k).toNat T.2.1 T.2.2.1 = R at i1 ⊢
    refine ⟨i1.1, fun hz => ?_⟩
    obtain ⟨j1, j2, j3⟩ := i1.2 hz
    refine ⟨⟨by show p < R.2.1; omega, j1.2⟩, ⟨by show k < R.2.2.1; omega, by show R.2.2.1 ≤ 60; omega⟩, ?_⟩
    show ((T.2.2.2 ++ R.2.2.2).length : Int) ≤ R.2.1 - p
    rw [List.length_append]
    omega
  · rw [if_pos w]
    exact ⟨hT.1, fun h => absurd h w⟩
theorem tmr_s {b : Int → Int} {n : Int} {r : Nat} {p k : Int} : tmr b n (r + 1) p k = if opcl (opc (tc b n (sk b n p))) = true then (if ¬ vfl b n (sk b n (sk b n p + 1)) k = 0 then (vfl b n (sk b n (sk b n p + 1)) k, sk b n p, k, []) else ((tmr b n r (vnd b n (sk b n (sk b n p + 1))) (k + 1)).1, (tmr b n r (vnd b n (sk b n (sk b n p + 1))) (k + 1)).2.1, (tmr b n r (vnd b n (sk b n (sk b n p + 1))) (k + 1)).2.2.1, vcd b n (sk b n (sk b n p + 1)) :: opc (tc b n (sk b n p)) :: (tmr b n r (vnd b n (sk b n (sk b n p + 1))) (k + 1)).2.2.2)) else (0, sk b n p, k, []) := rfl
theorem smr_s {b : Int → Int} {n : Int} {r : Nat} {p k : Int} : smr b n (r + 1) p k = if opc (tc b n (sk b n p)) = 2 ∨ opc (tc b n (sk b n p)) = 3 then (if ¬ (tm b n (sk b n p + 1) k).1 = 0 then ((tm b n (sk b n p + 1) k).1, sk b n p, k, []) else ((smr b n r (tm b n (sk b n p + 1) k).2.1 (tm b n (sk b n p + 1) k).2.2.1).1, (smr b n r (tm b n (sk b n p + 1) k).2.1 (tm b n (sk b n p + 1) k).2.2.1).2.1, (smr b n r (tm b n (sk b n p + 1) k).2.1 (tm b n (sk b n p + 1) k).2.2.1).2.2.1, (tm b n (sk b n p + 1) k).2.2.2 ++ opc (tc b n (sk b n p)) :: (smr b n r (tm b n (sk b n p + 1) k).2.1 (tm b n (sk b n p + 1) k).2.2.1).2.2.2)) else (0, sk b n p, k, []) := rfl
/-- a list put down at a place -/
def wrl (C : Int → Int) : Int → List Int → (Int → Int)
  | _, [] => C
  | j, x :: xs => wrl (xup C j x) (j + 1) xs
theorem wrl_app {l m : List Int} : ∀ {C : Int → Int} {j : Int}, wrl C j (l ++ m) = wrl (wrl C j l) (j + (l.length : Int)) m := by
  induction l with
  | nil => intro C j; show wrl C j m = wrl C (j + 0) m; rw [Int.add_zero]
  | cons x xs ih =>
    intro C j
    show wrl (xup C j x) (j + 1) (xs ++ m) = wrl (wrl (xup C j x) (j + 1) xs) (j + ((xs.length + 1 : Nat) : Int)) m
    rw [ih, show j + 1 + (xs.length : Int) = j + ((xs.length + 1 : Nat) : Int) by omega]
theorem wrl_out {l : List Int} : ∀ {C : Int → Int} {j i : Int}, (i < j ∨ j + (l.length : Int) ≤ i) → wrl C j l i = C i := by
  induction l with
  | nil => intro C j i _; rfl
  | cons x xs ih =>
    intro C j i h
    rw [List.length_cons] at h
    show wrl (xup C j x) (j + 1) xs i = C i
    rw [ih (by omega), xup_ne _ _ (by omega)]
