/-! the text: pieces by their place -/
def TPO (b : Int → Int) (n : Int) : Prop := (0 ≤ n ∧ n ≤ 400) ∧ ∀ j, 0 ≤ j → j < n → -128 ≤ b j ∧ b j ≤ 127
def skn (b : Int → Int) (n : Int) : Nat → Int → Int
  | 0, p => p
  | r + 1, p => if p < n ∧ b p = 32 then skn b n r (p + 1) else p
def sk (b : Int → Int) (n p : Int) : Int := skn b n (n - p).toNat p
theorem sk_pos {b : Int → Int} {n p : Int} (h : p < n ∧ b p = 32) : sk b n p = sk b n (p + 1) := by
  unfold sk
  rw [show (n - p).toNat = (n - (p + 1)).toNat + 1 by omega, skn, if_pos h]
theorem sk_neg {b : Int → Int} {n p : Int} (h : ¬ (p < n ∧ b p = 32)) : sk b n p = p := by
  unfold sk
  cases (n - p).toNat with
  | zero => rfl
  | succ r => rw [skn, if_neg h]
theorem sk_rg {b : Int → Int} {n : Int} : ∀ (r : Nat) (p : Int), (n - p).toNat = r → p ≤ n → p ≤ sk b n p ∧ sk b n p ≤ n ∧ ¬ (sk b n p < n ∧ b (sk b n p) = 32) := by
  intro r
  induction r with
  | zero =>
    intro p h hp
    rw [sk_neg (by omega)]
    exact ⟨Int.le_refl _, hp, by omega⟩
  | succ r ih =>
    intro p h hp
    by_cases q : p < n ∧ b p = 32
    · rw [sk_pos q]
      have := ih (p + 1) (by omega) (by omega)
      exact ⟨by omega, this.2⟩
    · rw [sk_neg q]
      exact ⟨Int.le_refl _, hp, q⟩
theorem sk_in {b : Int → Int} {n p : Int} (h : p ≤ n) : p ≤ sk b n p ∧ sk b n p ≤ n := ⟨(sk_rg _ p rfl h).1, (sk_rg _ p rfl h).2.1⟩
theorem sk_sk {b : Int → Int} {n p : Int} (h : p ≤ n) : sk b n (sk b n p) = sk b n p := sk_neg (sk_rg _ p rfl h).2.2
def ltr (b : Int → Int) (n p : Int) : Bool := decide (p < n ∧ 97 ≤ b p ∧ b p ≤ 122)
def dgt (b : Int → Int) (n p : Int) : Bool := decide (p < n ∧ 48 ≤ b p ∧ b p ≤ 57)
def run (F : Int → Bool) : Nat → Int → Int
  | 0, p => p
  | r + 1, p => if F p = true then run F r (p + 1) else p
def le_ (b : Int → Int) (n p : Int) : Int := run (ltr b n) (n - p).toNat p
def de_ (b : Int → Int) (n p : Int) : Int := run (dgt b n) (n - p).toNat p
theorem run_all {F : Int → Bool} {n : Int} (hF : ∀ p, F p = true → p < n) : ∀ (r : Nat) (p : Int), (n - p).toNat = r → (p ≤ run F r p ∧ (p ≤ n → run F r p ≤ n)) ∧ (∀ k, p ≤ k → k < run F r p → F k = true) ∧ ¬ F (run F r p) = true := by
  intro r
  induction r with
  | zero =>
    intro p h
    refine ⟨⟨Int.le_refl _, fun h => h⟩, fun k k0 k1 => ?_, fun q => ?_⟩
    · have : k < p := k1
      omega
    · have := hF p q; omega
  | succ r ih =>
    intro p h
    unfold run
    by_cases q : F p = true
    · rw [if_pos q]
      have := ih (p + 1) (by omega)
      refine ⟨⟨by omega, fun _ => this.1.2 (by omega)⟩, fun k k0 k1 => ?_, this.2.2⟩
      by_cases e : k = p
      · rw [e]; exact q
      · exact this.2.1 k (by omega) k1
    · rw [if_neg q]
      exact ⟨⟨Int.le_refl _, fun h => h⟩, fun k k0 k1 => by omega, q⟩
theorem ltr_lt {b : Int → Int} {n : Int} (p : Int) (h : ltr b n p = true) : p < n := (of_decide_eq_true h).1
theorem dgt_lt {b : Int → Int} {n : Int} (p : Int) (h : dgt b n p = true) : p < n := (of_decide_eq_true h).1
theorem le_all {b : Int → Int} {n p : Int} : (p ≤ le_ b n p ∧ (p ≤ n → le_ b n p ≤ n)) ∧ (∀ k, p ≤ k → k < le_ b n p → ltr b n k = true) ∧ ¬ ltr b n (le_ b n p) = true := run_all (ltr_lt (b := b)) _ p rfl
theorem de_all {b : Int → Int} {n p : Int} : (p ≤ de_ b n p ∧ (p ≤ n → de_ b n p ≤ n)) ∧ (∀ k, p ≤ k → k < de_ b n p → dgt b n k = true) ∧ ¬ dgt b n (de_ b n p) = true := run_all (dgt_lt (b := b)) _ p rfl
/-- the byte at a place; none: the end -/
def tc (b : Int → Int) (n p : Int) : Int := if p < n then xand (b p) 255 else -1
def wk (b : Int → Int) (q : Int) : Nat → Int64
  | 0 => 0
  | k + 1 => if (k : Int) < 8 then xlsh (wk b q k) 8 ||| Int64.ofInt (b (q + (k : Int))) else wk b q k
def wki (b : Int → Int) (q : Int) : Nat → Int
  | 0 => 0
  | k + 1 => 256 * wki b q k + b (q + (k : Int))
def twd (b : Int → Int) (n q : Int) (w : Int64) : Bool := decide (0 < le_ b n q - q ∧ le_ b n q - q < 8 ∧ wk b q (le_ b n q - q).toNat = w)
def tws (v : Int) : Int := if v = 444351214452 then 0 else if v = 495740085093 then 1 else if v = 1802071652 then 2 else if v = 1936292453 then 3 else if v = 465625113971 then 4 else if v = 512970880104 then 5 else if v = 6840691 then 6 else if v = 7501157 then 7 else if v = 1718773093 then 8 else if v = 108187867505765 then 9 else if v = 1835626085 then 10 else if v = 1953854062 then 11 else if v = 1667328869 then 12 else if v = 1952541541 then 13 else if v = 26982 then 14 else if v = 7237492 then 15 else if v = 6385252 then 16 else if v = 28530 then 17 else -1
def tw (b : Int → Int) (n q : Int) : Int := if 0 < le_ b n q - q ∧ le_ b n q - q < 8 then tws (wki b q (le_ b n q - q).toNat) else -1
def dvk (b : Int → Int) (q : Int) : Nat → Int
  | 0 => 0
  | k + 1 => if (k : Int) < 5 then 10 * dvk b q k + b (q + (k : Int)) - 48 else dvk b q k
/-- a number: none where it has more than five digits -/
def tnv (b : Int → Int) (n q : Int) : Int := if 5 < de_ b n q - q then -1 else dvk b q (de_ b n q - q).toNat
theorem dvk_rg {b : Int → Int} {q : Int} : ∀ k : Nat, (∀ j : Int, q ≤ j → j < q + (k : Int) → 48 ≤ b j ∧ b j ≤ 57) → 0 ≤ dvk b q k ∧ dvk b q k < 10 ^ (min k 5) := by
  intro k
  induction k with
  | zero => intro _; exact ⟨Int.le_refl _, by show (0 : Int) < 1; decide⟩
  | succ k ih =>
    intro h
    have i1 := ih (fun j j0 j1 => h j j0 (by omega))
    have h1 := h (q + (k : Int)) (by omega) (by omega)
    unfold dvk
    by_cases qk : (k : Int) < 5
    · rw [if_pos qk]
      rw [Nat.min_eq_left (by omega)] at i1 ⊢
      rw [Int.pow_succ]
      omega
    · rw [if_neg qk]
      rw [Nat.min_eq_right (by omega)] at i1 ⊢
      exact i1
theorem p10 (k : Nat) (h : k ≤ 5) : (10 : Int) ^ k ≤ 100000 := by
  have : k = 0 ∨ k = 1 ∨ k = 2 ∨ k = 3 ∨ k = 4 ∨ k = 5 := by omega
  rcases this with q | q | q | q | q | q <;> subst q <;> decide
theorem p256 (k : Nat) (h : k ≤ 7) : (256 : Int) ^ k ≤ 72057594037927936 := by
  have : k = 0 ∨ k = 1 ∨ k = 2 ∨ k = 3 ∨ k = 4 ∨ k = 5 ∨ k = 6 ∨ k = 7 := by omega
  rcases this with q | q | q | q | q | q | q | q <;> subst q <;> decide
theorem p256b (k : Nat) (h : k ≤ 6) : (256 : Int) ^ k ≤ 281474976710656 := by
  have : k = 0 ∨ k = 1 ∨ k = 2 ∨ k = 3 ∨ k = 4 ∨ k = 5 ∨ k = 6 := by omega
  rcases this with q | q | q | q | q | q | q <;> subst q <;> decide
theorem dvk_rg5 {b : Int → Int} {n q : Int} {k : Nat} (h : ∀ j : Int, q ≤ j → j < q + (k : Int) → dgt b n j = true) : 0 ≤ dvk b q k ∧ dvk b q k ≤ 99999 := by
  have h1 := dvk_rg k (fun j j0 j1 => (of_decide_eq_true (h j j0 j1)).2)
  have h2 := p10 (min k 5) (by omega)
  omega
theorem wki_rg {b : Int → Int} {q : Int} : ∀ k : Nat, (∀ j : Int, q ≤ j → j < q + (k : Int) → 97 ≤ b j ∧ b j ≤ 122) → 0 ≤ wki b q k ∧ wki b q k < 256 ^ k := by
  intro k
  induction k with
  | zero => intro _; exact ⟨Int.le_refl _, by show (0 : Int) < 1; decide⟩
  | succ k ih =>
    intro h
    have i1 := ih (fun j j0 j1 => h j j0 (by omega))
    have h1 := h (q + (k : Int)) (by omega) (by omega)
    unfold wki
    rw [Int.pow_succ]
    omega
theorem sh_or {x y : Nat} (hx : x < 2 ^ 55) (hy : y < 256) : xlsh (Int64.ofNat x) 8 ||| Int64.ofNat y = Int64.ofNat (256 * x + y) := by
  have e1 : xlsh (Int64.ofNat x) 8 = Int64.ofNat (x <<< 8) := by
    apply Int64.toBitVec.inj
    have e8 : ((Int32.ofInt 8).toInt64 &&& 63).toBitVec.smod 64 = 8#64 := by decide
    show BitVec.ofNat 64 x <<< (((Int32.ofInt 8).toInt64 &&& 63).toBitVec.smod 64) = BitVec.ofNat 64 (x <<< 8)
    rw [e8]
    show BitVec.ofNat 64 x <<< (8 : Nat) = BitVec.ofNat 64 (x <<< 8)
    apply BitVec.eq_of_toNat_eq
    rw [BitVec.toNat_shiftLeft, BitVec.toNat_ofNat, BitVec.toNat_ofNat, Nat.mod_eq_of_lt (show x < 2 ^ 64 by omega)]
  rw [e1]
  have e2 : Int64.ofNat (x <<< 8) ||| Int64.ofNat y = Int64.ofNat (x <<< 8 ||| y) := by
    apply Int64.toBitVec.inj
    show BitVec.ofNat 64 (x <<< 8) ||| BitVec.ofNat 64 y = BitVec.ofNat 64 (x <<< 8 ||| y)
    exact (BitVec.ofNat_or (x := x <<< 8) (y := y) (w := 64)).symm
  rw [e2, ← Nat.shiftLeft_add_eq_or_of_lt (i := 8) hy, Nat.shiftLeft_eq]
  congr 1
  omega
theorem wk_i {b : Int → Int} {q : Int} : ∀ k : Nat, k ≤ 7 → (∀ j : Int, q ≤ j → j < q + (k : Int) → 97 ≤ b j ∧ b j ≤ 122) → wk b q k = Int64.ofInt (wki b q k) := by
  intro k
  induction k with
  | zero => intro _ _; rfl
  | succ k ih =>
    intro hk h
    have h0 : ∀ j : Int, q ≤ j → j < q + (k : Int) → 97 ≤ b j ∧ b j ≤ 122 := fun j j0 j1 => h j j0 (by omega)
    have h1 := h (q + (k : Int)) (by omega) (by omega)
    have h2 := wki_rg k h0
    have h3 := p256b k (by omega)
    have e := sh_or (x := (wki b q k).toNat) (y := (b (q + (k : Int))).toNat) (by omega) (by omega)
    unfold wk wki
    rw [if_pos (by omega), ih (by omega) h0]
    rw [← Int64.ofInt_eq_ofNat, ← Int64.ofInt_eq_ofNat, ← Int64.ofInt_eq_ofNat, Int.toNat_of_nonneg h2.1, Int.toNat_of_nonneg (by omega)] at e
    rw [e]
    congr 1
    omega
theorem tws_0 (v : Int) : tws v = 0 ↔ v = 444351214452 := by
  constructor
  · intro q
    unfold tws at q
    by_cases h0 : v = 444351214452
    · exact h0
    by_cases h1 : v = 495740085093
    · rw [if_neg h0, if_pos h1] at q; exact absurd q (by decide)
    by_cases h2 : v = 1802071652
    · rw [if_neg h0, if_neg h1, if_pos h2] at q; exact absurd q (by decide)
    by_cases h3 : v = 1936292453
    · rw [if_neg h0, if_neg h1, if_neg h2, if_pos h3] at q; exact absurd q (by decide)
    by_cases h4 : v = 465625113971
    · rw [if_neg h0, if_neg h1, if_neg h2, if_neg h3, if_pos h4] at q; exact absurd q (by decide)
    by_cases h5 : v = 512970880104
    · rw [if_neg h0, if_neg h1, if_neg h2, if_neg h3, if_neg h4, if_pos h5] at q; exact absurd q (by decide)
    by_cases h6 : v = 6840691
    · rw [if_neg h0, if_neg h1, if_neg h2, if_neg h3, if_neg h4, if_neg h5, if_pos h6] at q; exact absurd q (by decide)
    by_cases h7 : v = 7501157
    · rw [if_neg h0, if_neg h1, if_neg h2, if_neg h3, if_neg h4, if_neg h5, if_neg h6, if_pos h7] at q; exact absurd q (by decide)
    by_cases h8 : v = 1718773093
    · rw [if_neg h0, if_neg h1, if_neg h2, if_neg h3, if_neg h4, if_neg h5, if_neg h6, if_neg h7, if_pos h8] at q; exact absurd q (by decide)
    by_cases h9 : v = 108187867505765
    · rw [if_neg h0, if_neg h1, if_neg h2, if_neg h3, if_neg h4, if_neg h5, if_neg h6, if_neg h7, if_neg h8, if_pos h9] at q; exact absurd q (by decide)
    by_cases h10 : v = 1835626085
    · rw [if_neg h0, if_neg h1, if_neg h2, if_neg h3, if_neg h4, if_neg h5, if_neg h6, if_neg h7, if_neg h8, if_neg h9, if_pos h10] at q; exact absurd q (by decide)
    by_cases h11 : v = 1953854062
    · rw [if_neg h0, if_neg h1, if_neg h2, if_neg h3, if_neg h4, if_neg h5, if_neg h6, if_neg h7, if_neg h8, if_neg h9, if_neg h10, if_pos h11] at q; exact absurd q (by decide)
    by_cases h12 : v = 1667328869
    · rw [if_neg h0, if_neg h1, if_neg h2, if_neg h3, if_neg h4, if_neg h5, if_neg h6, if_neg h7, if_neg h8, if_neg h9, if_neg h10, if_neg h11, if_pos h12] at q; exact absurd q (by decide)
    by_cases h13 : v = 1952541541
    · rw [if_neg h0, if_neg h1, if_neg h2, if_neg h3, if_neg h4, if_neg h5, if_neg h6, if_neg h7, if_neg h8, if_neg h9, if_neg h10, if_neg h11, if_neg h12, if_pos h13] at q; exact absurd q (by decide)
    by_cases h14 : v = 26982
    · rw [if_neg h0, if_neg h1, if_neg h2, if_neg h3, if_neg h4, if_neg h5, if_neg h6, if_neg h7, if_neg h8, if_neg h9, if_neg h10, if_neg h11, if_neg h12, if_neg h13, if_pos h14] at q; exact absurd q (by decide)
    by_cases h15 : v = 7237492
    · rw [if_neg h0, if_neg h1, if_neg h2, if_neg h3, if_neg h4, if_neg h5, if_neg h6, if_neg h7, if_neg h8, if_neg h9, if_neg h10, if_neg h11, if_neg h12, if_neg h13, if_neg h14, if_pos h15] at q; exact absurd q (by decide)
    by_cases h16 : v = 6385252
    · rw [if_neg h0, if_neg h1, if_neg h2, if_neg h3, if_neg h4, if_neg h5, if_neg h6, if_neg h7, if_neg h8, if_neg h9, if_neg h10, if_neg h11, if_neg h12, if_neg h13, if_neg h14, if_neg h15, if_pos h16] at q; exact absurd q (by decide)
    by_cases h17 : v = 28530
    · rw [if_neg h0, if_neg h1, if_neg h2, if_neg h3, if_neg h4, if_neg h5, if_neg h6, if_neg h7, if_neg h8, if_neg h9, if_neg h10, if_neg h11, if_neg h12, if_neg h13, if_neg h14, if_neg h15, if_neg h16, if_pos h17] at q; exact absurd q (by decide)
    rw [if_neg h0, if_neg h1, if_neg h2, if_neg h3, if_neg h4, if_neg h5, if_neg h6, if_neg h7, if_neg h8, if_neg h9, if_neg h10, if_neg h11, if_neg h12, if_neg h13, if_neg h14, if_neg h15, if_neg h16, if_neg h17] at q
    exact absurd q (by decide)
  · intro q; rw [q]; decide
theorem twd_0 (b : Int → Int) (n q : Int) : (twd b n q (444351214452 : Int64) = true) = (tw b n q = 0) := by
  have ha := le_all (b := b) (n := n) (p := q)
  unfold twd tw
  rw [decide_eq_true_eq]
  by_cases h : 0 < le_ b n q - q ∧ le_ b n q - q < 8
  · rw [if_pos h]
    have hl : ∀ j : Int, q ≤ j → j < q + (((le_ b n q - q).toNat : Nat) : Int) → 97 ≤ b j ∧ b j ≤ 122 := fun j j0 j1 => (of_decide_eq_true (ha.2.1 j j0 (by omega))).2
    have hr := wki_rg _ hl
    have hp := p256 (le_ b n q - q).toNat (by omega)
    rw [wk_i _ (by omega) hl]
    have e : (Int64.ofInt (wki b q (le_ b n q - q).toNat) = (444351214452 : Int64)) ↔ wki b q (le_ b n q - q).toNat = 444351214452 := by
      constructor
      · intro q1
        have := congrArg Int64.toInt q1
        rw [Int64.toInt_ofInt_of_le (by omega) (by omega)] at this
        exact this
      · intro q1; rw [q1]; rfl
    rw [e]
    apply propext
    exact ⟨fun r => (tws_0 _).mpr r.2.2, fun r => ⟨h.1, h.2, (tws_0 _).mp r⟩⟩
  · rw [if_neg h]
    apply propext
    exact ⟨fun r => absurd ⟨r.1, r.2.1⟩ h, fun r => absurd r (by decide)⟩
theorem tws_1 (v : Int) : tws v = 1 ↔ v = 495740085093 := by
  constructor
  · intro q
    unfold tws at q
    by_cases h0 : v = 444351214452
    · rw [if_pos h0] at q; exact absurd q (by decide)
    by_cases h1 : v = 495740085093
    · exact h1
    by_cases h2 : v = 1802071652
    · rw [if_neg h0, if_neg h1, if_pos h2] at q; exact absurd q (by decide)
    by_cases h3 : v = 1936292453
    · rw [if_neg h0, if_neg h1, if_neg h2, if_pos h3] at q; exact absurd q (by decide)
    by_cases h4 : v = 465625113971
    · rw [if_neg h0, if_neg h1, if_neg h2, if_neg h3, if_pos h4] at q; exact absurd q (by decide)
    by_cases h5 : v = 512970880104
    · rw [if_neg h0, if_neg h1, if_neg h2, if_neg h3, if_neg h4, if_pos h5] at q; exact absurd q (by decide)
    by_cases h6 : v = 6840691
    · rw [if_neg h0, if_neg h1, if_neg h2, if_neg h3, if_neg h4, if_neg h5, if_pos h6] at q; exact absurd q (by decide)
    by_cases h7 : v = 7501157
    · rw [if_neg h0, if_neg h1, if_neg h2, if_neg h3, if_neg h4, if_neg h5, if_neg h6, if_pos h7] at q; exact absurd q (by decide)
    by_cases h8 : v = 1718773093
    · rw [if_neg h0, if_neg h1, if_neg h2, if_neg h3, if_neg h4, if_neg h5, if_neg h6, if_neg h7, if_pos h8] at q; exact absurd q (by decide)
    by_cases h9 : v = 108187867505765
    · rw [if_neg h0, if_neg h1, if_neg h2, if_neg h3, if_neg h4, if_neg h5, if_neg h6, if_neg h7, if_neg h8, if_pos h9] at q; exact absurd q (by decide)
    by_cases h10 : v = 1835626085
    · rw [if_neg h0, if_neg h1, if_neg h2, if_neg h3, if_neg h4, if_neg h5, if_neg h6, if_neg h7, if_neg h8, if_neg h9, if_pos h10] at q; exact absurd q (by decide)
    by_cases h11 : v = 1953854062
    · rw [if_neg h0, if_neg h1, if_neg h2, if_neg h3, if_neg h4, if_neg h5, if_neg h6, if_neg h7, if_neg h8, if_neg h9, if_neg h10, if_pos h11] at q; exact absurd q (by decide)
    by_cases h12 : v = 1667328869
    · rw [if_neg h0, if_neg h1, if_neg h2, if_neg h3, if_neg h4, if_neg h5, if_neg h6, if_neg h7, if_neg h8, if_neg h9, if_neg h10, if_neg h11, if_pos h12] at q; exact absurd q (by decide)
    by_cases h13 : v = 1952541541
    · rw [if_neg h0, if_neg h1, if_neg h2, if_neg h3, if_neg h4, if_neg h5, if_neg h6, if_neg h7, if_neg h8, if_neg h9, if_neg h10, if_neg h11, if_neg h12, if_pos h13] at q; exact absurd q (by decide)
    by_cases h14 : v = 26982
    · rw [if_neg h0, if_neg h1, if_neg h2, if_neg h3, if_neg h4, if_neg h5, if_neg h6, if_neg h7, if_neg h8, if_neg h9, if_neg h10, if_neg h11, if_neg h12, if_neg h13, if_pos h14] at q; exact absurd q (by decide)
    by_cases h15 : v = 7237492
    · rw [if_neg h0, if_neg h1, if_neg h2, if_neg h3, if_neg h4, if_neg h5, if_neg h6, if_neg h7, if_neg h8, if_neg h9, if_neg h10, if_neg h11, if_neg h12, if_neg h13, if_neg h14, if_pos h15] at q; exact absurd q (by decide)
    by_cases h16 : v = 6385252
    · rw [if_neg h0, if_neg h1, if_neg h2, if_neg h3, if_neg h4, if_neg h5, if_neg h6, if_neg h7, if_neg h8, if_neg h9, if_neg h10, if_neg h11, if_neg h12, if_neg h13, if_neg h14, if_neg h15, if_pos h16] at q; exact absurd q (by decide)
    by_cases h17 : v = 28530
    · rw [if_neg h0, if_neg h1, if_neg h2, if_neg h3, if_neg h4, if_neg h5, if_neg h6, if_neg h7, if_neg h8, if_neg h9, if_neg h10, if_neg h11, if_neg h12, if_neg h13, if_neg h14, if_neg h15, if_neg h16, if_pos h17] at q; exact absurd q (by decide)
    rw [if_neg h0, if_neg h1, if_neg h2, if_neg h3, if_neg h4, if_neg h5, if_neg h6, if_neg h7, if_neg h8, if_neg h9, if_neg h10, if_neg h11, if_neg h12, if_neg h13, if_neg h14, if_neg h15, if_neg h16, if_neg h17] at q
    exact absurd q (by decide)
  · intro q; rw [q]; decide
theorem twd_1 (b : Int → Int) (n q : Int) : (twd b n q (495740085093 : Int64) = true) = (tw b n q = 1) := by
  have ha := le_all (b := b) (n := n) (p := q)
  unfold twd tw
  rw [decide_eq_true_eq]
  by_cases h : 0 < le_ b n q - q ∧ le_ b n q - q < 8
  · rw [if_pos h]
    have hl : ∀ j : Int, q ≤ j → j < q + (((le_ b n q - q).toNat : Nat) : Int) → 97 ≤ b j ∧ b j ≤ 122 := fun j j0 j1 => (of_decide_eq_true (ha.2.1 j j0 (by omega))).2
    have hr := wki_rg _ hl
    have hp := p256 (le_ b n q - q).toNat (by omega)
    rw [wk_i _ (by omega) hl]
    have e : (Int64.ofInt (wki b q (le_ b n q - q).toNat) = (495740085093 : Int64)) ↔ wki b q (le_ b n q - q).toNat = 495740085093 := by
      constructor
      · intro q1
        have := congrArg Int64.toInt q1
        rw [Int64.toInt_ofInt_of_le (by omega) (by omega)] at this
        exact this
      · intro q1; rw [q1]; rfl
    rw [e]
    apply propext
    exact ⟨fun r => (tws_1 _).mpr r.2.2, fun r => ⟨h.1, h.2, (tws_1 _).mp r⟩⟩
  · rw [if_neg h]
    apply propext
    exact ⟨fun r => absurd ⟨r.1, r.2.1⟩ h, fun r => absurd r (by decide)⟩
theorem tws_2 (v : Int) : tws v = 2 ↔ v = 1802071652 := by
  constructor
  · intro q
    unfold tws at q
    by_cases h0 : v = 444351214452
    · rw [if_pos h0] at q; exact absurd q (by decide)
    by_cases h1 : v = 495740085093
    · rw [if_neg h0, if_pos h1] at q; exact absurd q (by decide)
    by_cases h2 : v = 1802071652
    · exact h2
    by_cases h3 : v = 1936292453
    · rw [if_neg h0, if_neg h1, if_neg h2, if_pos h3] at q; exact absurd q (by decide)
    by_cases h4 : v = 465625113971
    · rw [if_neg h0, if_neg h1, if_neg h2, if_neg h3, if_pos h4] at q; exact absurd q (by decide)
    by_cases h5 : v = 512970880104
    · rw [if_neg h0, if_neg h1, if_neg h2, if_neg h3, if_neg h4, if_pos h5] at q; exact absurd q (by decide)
    by_cases h6 : v = 6840691
    · rw [if_neg h0, if_neg h1, if_neg h2, if_neg h3, if_neg h4, if_neg h5, if_pos h6] at q; exact absurd q (by decide)
    by_cases h7 : v = 7501157
    · rw [if_neg h0, if_neg h1, if_neg h2, if_neg h3, if_neg h4, if_neg h5, if_neg h6, if_pos h7] at q; exact absurd q (by decide)
    by_cases h8 : v = 1718773093
    · rw [if_neg h0, if_neg h1, if_neg h2, if_neg h3, if_neg h4, if_neg h5, if_neg h6, if_neg h7, if_pos h8] at q; exact absurd q (by decide)
    by_cases h9 : v = 108187867505765
    · rw [if_neg h0, if_neg h1, if_neg h2, if_neg h3, if_neg h4, if_neg h5, if_neg h6, if_neg h7, if_neg h8, if_pos h9] at q; exact absurd q (by decide)
    by_cases h10 : v = 1835626085
    · rw [if_neg h0, if_neg h1, if_neg h2, if_neg h3, if_neg h4, if_neg h5, if_neg h6, if_neg h7, if_neg h8, if_neg h9, if_pos h10] at q; exact absurd q (by decide)
    by_cases h11 : v = 1953854062
    · rw [if_neg h0, if_neg h1, if_neg h2, if_neg h3, if_neg h4, if_neg h5, if_neg h6, if_neg h7, if_neg h8, if_neg h9, if_neg h10, if_pos h11] at q; exact absurd q (by decide)
    by_cases h12 : v = 1667328869
    · rw [if_neg h0, if_neg h1, if_neg h2, if_neg h3, if_neg h4, if_neg h5, if_neg h6, if_neg h7, if_neg h8, if_neg h9, if_neg h10, if_neg h11, if_pos h12] at q; exact absurd q (by decide)
    by_cases h13 : v = 1952541541
    · rw [if_neg h0, if_neg h1, if_neg h2, if_neg h3, if_neg h4, if_neg h5, if_neg h6, if_neg h7, if_neg h8, if_neg h9, if_neg h10, if_neg h11, if_neg h12, if_pos h13] at q; exact absurd q (by decide)
    by_cases h14 : v = 26982
    · rw [if_neg h0, if_neg h1, if_neg h2, if_neg h3, if_neg h4, if_neg h5, if_neg h6, if_neg h7, if_neg h8, if_neg h9, if_neg h10, if_neg h11, if_neg h12, if_neg h13, if_pos h14] at q; exact absurd q (by decide)
    by_cases h15 : v = 7237492
    · rw [if_neg h0, if_neg h1, if_neg h2, if_neg h3, if_neg h4, if_neg h5, if_neg h6, if_neg h7, if_neg h8, if_neg h9, if_neg h10, if_neg h11, if_neg h12, if_neg h13, if_neg h14, if_pos h15] at q; exact absurd q (by decide)
    by_cases h16 : v = 6385252
    · rw [if_neg h0, if_neg h1, if_neg h2, if_neg h3, if_neg h4, if_neg h5, if_neg h6, if_neg h7, if_neg h8, if_neg h9, if_neg h10, if_neg h11, if_neg h12, if_neg h13, if_neg h14, if_neg h15, if_pos h16] at q; exact absurd q (by decide)
    by_cases h17 : v = 28530
    · rw [if_neg h0, if_neg h1, if_neg h2, if_neg h3, if_neg h4, if_neg h5, if_neg h6, if_neg h7, if_neg h8, if_neg h9, if_neg h10, if_neg h11, if_neg h12, if_neg h13, if_neg h14, if_neg h15, if_neg h16, if_pos h17] at q; exact absurd q (by decide)
    rw [if_neg h0, if_neg h1, if_neg h2, if_neg h3, if_neg h4, if_neg h5, if_neg h6, if_neg h7, if_neg h8, if_neg h9, if_neg h10, if_neg h11, if_neg h12, if_neg h13, if_neg h14, if_neg h15, if_neg h16, if_neg h17] at q
    exact absurd q (by decide)
  · intro q; rw [q]; decide
theorem twd_2 (b : Int → Int) (n q : Int) : (twd b n q (1802071652 : Int64) = true) = (tw b n q = 2) := by
  have ha := le_all (b := b) (n := n) (p := q)
  unfold twd tw
  rw [decide_eq_true_eq]
  by_cases h : 0 < le_ b n q - q ∧ le_ b n q - q < 8
  · rw [if_pos h]
    have hl : ∀ j : Int, q ≤ j → j < q + (((le_ b n q - q).toNat : Nat) : Int) → 97 ≤ b j ∧ b j ≤ 122 := fun j j0 j1 => (of_decide_eq_true (ha.2.1 j j0 (by omega))).2
    have hr := wki_rg _ hl
    have hp := p256 (le_ b n q - q).toNat (by omega)
    rw [wk_i _ (by omega) hl]
    have e : (Int64.ofInt (wki b q (le_ b n q - q).toNat) = (1802071652 : Int64)) ↔ wki b q (le_ b n q - q).toNat = 1802071652 := by
      constructor
      · intro q1
        have := congrArg Int64.toInt q1
        rw [Int64.toInt_ofInt_of_le (by omega) (by omega)] at this
        exact this
      · intro q1; rw [q1]; rfl
    rw [e]
    apply propext
    exact ⟨fun r => (tws_2 _).mpr r.2.2, fun r => ⟨h.1, h.2, (tws_2 _).mp r⟩⟩
  · rw [if_neg h]
    apply propext
    exact ⟨fun r => absurd ⟨r.1, r.2.1⟩ h, fun r => absurd r (by decide)⟩
theorem tws_3 (v : Int) : tws v = 3 ↔ v = 1936292453 := by
  constructor
  · intro q
    unfold tws at q
    by_cases h0 : v = 444351214452
    · rw [if_pos h0] at q; exact absurd q (by decide)
    by_cases h1 : v = 495740085093
    · rw [if_neg h0, if_pos h1] at q; exact absurd q (by decide)
    by_cases h2 : v = 1802071652
    · rw [if_neg h0, if_neg h1, if_pos h2] at q; exact absurd q (by decide)
    by_cases h3 : v = 1936292453
    · exact h3
    by_cases h4 : v = 465625113971
    · rw [if_neg h0, if_neg h1, if_neg h2, if_neg h3, if_pos h4] at q; exact absurd q (by decide)
    by_cases h5 : v = 512970880104
    · rw [if_neg h0, if_neg h1, if_neg h2, if_neg h3, if_neg h4, if_pos h5] at q; exact absurd q (by decide)
    by_cases h6 : v = 6840691
    · rw [if_neg h0, if_neg h1, if_neg h2, if_neg h3, if_neg h4, if_neg h5, if_pos h6] at q; exact absurd q (by decide)
    by_cases h7 : v = 7501157
    · rw [if_neg h0, if_neg h1, if_neg h2, if_neg h3, if_neg h4, if_neg h5, if_neg h6, if_pos h7] at q; exact absurd q (by decide)
    by_cases h8 : v = 1718773093
    · rw [if_neg h0, if_neg h1, if_neg h2, if_neg h3, if_neg h4, if_neg h5, if_neg h6, if_neg h7, if_pos h8] at q; exact absurd q (by decide)
    by_cases h9 : v = 108187867505765
    · rw [if_neg h0, if_neg h1, if_neg h2, if_neg h3, if_neg h4, if_neg h5, if_neg h6, if_neg h7, if_neg h8, if_pos h9] at q; exact absurd q (by decide)
    by_cases h10 : v = 1835626085
    · rw [if_neg h0, if_neg h1, if_neg h2, if_neg h3, if_neg h4, if_neg h5, if_neg h6, if_neg h7, if_neg h8, if_neg h9, if_pos h10] at q; exact absurd q (by decide)
    by_cases h11 : v = 1953854062
    · rw [if_neg h0, if_neg h1, if_neg h2, if_neg h3, if_neg h4, if_neg h5, if_neg h6, if_neg h7, if_neg h8, if_neg h9, if_neg h10, if_pos h11] at q; exact absurd q (by decide)
    by_cases h12 : v = 1667328869
    · rw [if_neg h0, if_neg h1, if_neg h2, if_neg h3, if_neg h4, if_neg h5, if_neg h6, if_neg h7, if_neg h8, if_neg h9, if_neg h10, if_neg h11, if_pos h12] at q; exact absurd q (by decide)
    by_cases h13 : v = 1952541541
    · rw [if_neg h0, if_neg h1, if_neg h2, if_neg h3, if_neg h4, if_neg h5, if_neg h6, if_neg h7, if_neg h8, if_neg h9, if_neg h10, if_neg h11, if_neg h12, if_pos h13] at q; exact absurd q (by decide)
    by_cases h14 : v = 26982
    · rw [if_neg h0, if_neg h1, if_neg h2, if_neg h3, if_neg h4, if_neg h5, if_neg h6, if_neg h7, if_neg h8, if_neg h9, if_neg h10, if_neg h11, if_neg h12, if_neg h13, if_pos h14] at q; exact absurd q (by decide)
    by_cases h15 : v = 7237492
    · rw [if_neg h0, if_neg h1, if_neg h2, if_neg h3, if_neg h4, if_neg h5, if_neg h6, if_neg h7, if_neg h8, if_neg h9, if_neg h10, if_neg h11, if_neg h12, if_neg h13, if_neg h14, if_pos h15] at q; exact absurd q (by decide)
    by_cases h16 : v = 6385252
    · rw [if_neg h0, if_neg h1, if_neg h2, if_neg h3, if_neg h4, if_neg h5, if_neg h6, if_neg h7, if_neg h8, if_neg h9, if_neg h10, if_neg h11, if_neg h12, if_neg h13, if_neg h14, if_neg h15, if_pos h16] at q; exact absurd q (by decide)
    by_cases h17 : v = 28530
    · rw [if_neg h0, if_neg h1, if_neg h2, if_neg h3, if_neg h4, if_neg h5, if_neg h6, if_neg h7, if_neg h8, if_neg h9, if_neg h10, if_neg h11, if_neg h12, if_neg h13, if_neg h14, if_neg h15, if_neg h16, if_pos h17] at q; exact absurd q (by decide)
    rw [if_neg h0, if_neg h1, if_neg h2, if_neg h3, if_neg h4, if_neg h5, if_neg h6, if_neg h7, if_neg h8, if_neg h9, if_neg h10, if_neg h11, if_neg h12, if_neg h13, if_neg h14, if_neg h15, if_neg h16, if_neg h17] at q
    exact absurd q (by decide)
  · intro q; rw [q]; decide
theorem twd_3 (b : Int → Int) (n q : Int) : (twd b n q (1936292453 : Int64) = true) = (tw b n q = 3) := by
  have ha := le_all (b := b) (n := n) (p := q)
  unfold twd tw
  rw [decide_eq_true_eq]
  by_cases h : 0 < le_ b n q - q ∧ le_ b n q - q < 8
  · rw [if_pos h]
    have hl : ∀ j : Int, q ≤ j → j < q + (((le_ b n q - q).toNat : Nat) : Int) → 97 ≤ b j ∧ b j ≤ 122 := fun j j0 j1 => (of_decide_eq_true (ha.2.1 j j0 (by omega))).2
    have hr := wki_rg _ hl
    have hp := p256 (le_ b n q - q).toNat (by omega)
    rw [wk_i _ (by omega) hl]
    have e : (Int64.ofInt (wki b q (le_ b n q - q).toNat) = (1936292453 : Int64)) ↔ wki b q (le_ b n q - q).toNat = 1936292453 := by
      constructor
      · intro q1
        have := congrArg Int64.toInt q1
        rw [Int64.toInt_ofInt_of_le (by omega) (by omega)] at this
        exact this
      · intro q1; rw [q1]; rfl
    rw [e]
    apply propext
    exact ⟨fun r => (tws_3 _).mpr r.2.2, fun r => ⟨h.1, h.2, (tws_3 _).mp r⟩⟩
  · rw [if_neg h]
    apply propext
    exact ⟨fun r => absurd ⟨r.1, r.2.1⟩ h, fun r => absurd r (by decide)⟩
theorem tws_4 (v : Int) : tws v = 4 ↔ v = 465625113971 := by
  constructor
  · intro q
    unfold tws at q
    by_cases h0 : v = 444351214452
    · rw [if_pos h0] at q; exact absurd q (by decide)
    by_cases h1 : v = 495740085093
    · rw [if_neg h0, if_pos h1] at q; exact absurd q (by decide)
    by_cases h2 : v = 1802071652
    · rw [if_neg h0, if_neg h1, if_pos h2] at q; exact absurd q (by decide)
    by_cases h3 : v = 1936292453
    · rw [if_neg h0, if_neg h1, if_neg h2, if_pos h3] at q; exact absurd q (by decide)
    by_cases h4 : v = 465625113971
    · exact h4
    by_cases h5 : v = 512970880104
    · rw [if_neg h0, if_neg h1, if_neg h2, if_neg h3, if_neg h4, if_pos h5] at q; exact absurd q (by decide)
    by_cases h6 : v = 6840691
    · rw [if_neg h0, if_neg h1, if_neg h2, if_neg h3, if_neg h4, if_neg h5, if_pos h6] at q; exact absurd q (by decide)
    by_cases h7 : v = 7501157
    · rw [if_neg h0, if_neg h1, if_neg h2, if_neg h3, if_neg h4, if_neg h5, if_neg h6, if_pos h7] at q; exact absurd q (by decide)
    by_cases h8 : v = 1718773093
    · rw [if_neg h0, if_neg h1, if_neg h2, if_neg h3, if_neg h4, if_neg h5, if_neg h6, if_neg h7, if_pos h8] at q; exact absurd q (by decide)
    by_cases h9 : v = 108187867505765
    · rw [if_neg h0, if_neg h1, if_neg h2, if_neg h3, if_neg h4, if_neg h5, if_neg h6, if_neg h7, if_neg h8, if_pos h9] at q; exact absurd q (by decide)
    by_cases h10 : v = 1835626085
    · rw [if_neg h0, if_neg h1, if_neg h2, if_neg h3, if_neg h4, if_neg h5, if_neg h6, if_neg h7, if_neg h8, if_neg h9, if_pos h10] at q; exact absurd q (by decide)
    by_cases h11 : v = 1953854062
    · rw [if_neg h0, if_neg h1, if_neg h2, if_neg h3, if_neg h4, if_neg h5, if_neg h6, if_neg h7, if_neg h8, if_neg h9, if_neg h10, if_pos h11] at q; exact absurd q (by decide)
    by_cases h12 : v = 1667328869
    · rw [if_neg h0, if_neg h1, if_neg h2, if_neg h3, if_neg h4, if_neg h5, if_neg h6, if_neg h7, if_neg h8, if_neg h9, if_neg h10, if_neg h11, if_pos h12] at q; exact absurd q (by decide)
    by_cases h13 : v = 1952541541
    · rw [if_neg h0, if_neg h1, if_neg h2, if_neg h3, if_neg h4, if_neg h5, if_neg h6, if_neg h7, if_neg h8, if_neg h9, if_neg h10, if_neg h11, if_neg h12, if_pos h13] at q; exact absurd q (by decide)
    by_cases h14 : v = 26982
    · rw [if_neg h0, if_neg h1, if_neg h2, if_neg h3, if_neg h4, if_neg h5, if_neg h6, if_neg h7, if_neg h8, if_neg h9, if_neg h10, if_neg h11, if_neg h12, if_neg h13, if_pos h14] at q; exact absurd q (by decide)
    by_cases h15 : v = 7237492
    · rw [if_neg h0, if_neg h1, if_neg h2, if_neg h3, if_neg h4, if_neg h5, if_neg h6, if_neg h7, if_neg h8, if_neg h9, if_neg h10, if_neg h11, if_neg h12, if_neg h13, if_neg h14, if_pos h15] at q; exact absurd q (by decide)
    by_cases h16 : v = 6385252
    · rw [if_neg h0, if_neg h1, if_neg h2, if_neg h3, if_neg h4, if_neg h5, if_neg h6, if_neg h7, if_neg h8, if_neg h9, if_neg h10, if_neg h11, if_neg h12, if_neg h13, if_neg h14, if_neg h15, if_pos h16] at q; exact absurd q (by decide)
    by_cases h17 : v = 28530
    · rw [if_neg h0, if_neg h1, if_neg h2, if_neg h3, if_neg h4, if_neg h5, if_neg h6, if_neg h7, if_neg h8, if_neg h9, if_neg h10, if_neg h11, if_neg h12, if_neg h13, if_neg h14, if_neg h15, if_neg h16, if_pos h17] at q; exact absurd q (by decide)
    rw [if_neg h0, if_neg h1, if_neg h2, if_neg h3, if_neg h4, if_neg h5, if_neg h6, if_neg h7, if_neg h8, if_neg h9, if_neg h10, if_neg h11, if_neg h12, if_neg h13, if_neg h14, if_neg h15, if_neg h16, if_neg h17] at q
    exact absurd q (by decide)
  · intro q; rw [q]; decide
theorem twd_4 (b : Int → Int) (n q : Int) : (twd b n q (465625113971 : Int64) = true) = (tw b n q = 4) := by
  have ha := le_all (b := b) (n := n) (p := q)
  unfold twd tw
  rw [decide_eq_true_eq]
  by_cases h : 0 < le_ b n q - q ∧ le_ b n q - q < 8
  · rw [if_pos h]
    have hl : ∀ j : Int, q ≤ j → j < q + (((le_ b n q - q).toNat : Nat) : Int) → 97 ≤ b j ∧ b j ≤ 122 := fun j j0 j1 => (of_decide_eq_true (ha.2.1 j j0 (by omega))).2
    have hr := wki_rg _ hl
    have hp := p256 (le_ b n q - q).toNat (by omega)
    rw [wk_i _ (by omega) hl]
    have e : (Int64.ofInt (wki b q (le_ b n q - q).toNat) = (465625113971 : Int64)) ↔ wki b q (le_ b n q - q).toNat = 465625113971 := by
      constructor
      · intro q1
        have := congrArg Int64.toInt q1
        rw [Int64.toInt_ofInt_of_le (by omega) (by omega)] at this
        exact this
      · intro q1; rw [q1]; rfl
    rw [e]
    apply propext
    exact ⟨fun r => (tws_4 _).mpr r.2.2, fun r => ⟨h.1, h.2, (tws_4 _).mp r⟩⟩
  · rw [if_neg h]
    apply propext
    exact ⟨fun r => absurd ⟨r.1, r.2.1⟩ h, fun r => absurd r (by decide)⟩
theorem tws_5 (v : Int) : tws v = 5 ↔ v = 512970880104 := by
  constructor
  · intro q
    unfold tws at q
    by_cases h0 : v = 444351214452
    · rw [if_pos h0] at q; exact absurd q (by decide)
    by_cases h1 : v = 495740085093
    · rw [if_neg h0, if_pos h1] at q; exact absurd q (by decide)
    by_cases h2 : v = 1802071652
    · rw [if_neg h0, if_neg h1, if_pos h2] at q; exact absurd q (by decide)
    by_cases h3 : v = 1936292453
    · rw [if_neg h0, if_neg h1, if_neg h2, if_pos h3] at q; exact absurd q (by decide)
    by_cases h4 : v = 465625113971
    · rw [if_neg h0, if_neg h1, if_neg h2, if_neg h3, if_pos h4] at q; exact absurd q (by decide)
    by_cases h5 : v = 512970880104
    · exact h5
    by_cases h6 : v = 6840691
    · rw [if_neg h0, if_neg h1, if_neg h2, if_neg h3, if_neg h4, if_neg h5, if_pos h6] at q; exact absurd q (by decide)
    by_cases h7 : v = 7501157
    · rw [if_neg h0, if_neg h1, if_neg h2, if_neg h3, if_neg h4, if_neg h5, if_neg h6, if_pos h7] at q; exact absurd q (by decide)
    by_cases h8 : v = 1718773093
    · rw [if_neg h0, if_neg h1, if_neg h2, if_neg h3, if_neg h4, if_neg h5, if_neg h6, if_neg h7, if_pos h8] at q; exact absurd q (by decide)
    by_cases h9 : v = 108187867505765
    · rw [if_neg h0, if_neg h1, if_neg h2, if_neg h3, if_neg h4, if_neg h5, if_neg h6, if_neg h7, if_neg h8, if_pos h9] at q; exact absurd q (by decide)
    by_cases h10 : v = 1835626085
    · rw [if_neg h0, if_neg h1, if_neg h2, if_neg h3, if_neg h4, if_neg h5, if_neg h6, if_neg h7, if_neg h8, if_neg h9, if_pos h10] at q; exact absurd q (by decide)
    by_cases h11 : v = 1953854062
    · rw [if_neg h0, if_neg h1, if_neg h2, if_neg h3, if_neg h4, if_neg h5, if_neg h6, if_neg h7, if_neg h8, if_neg h9, if_neg h10, if_pos h11] at q; exact absurd q (by decide)
    by_cases h12 : v = 1667328869
    · rw [if_neg h0, if_neg h1, if_neg h2, if_neg h3, if_neg h4, if_neg h5, if_neg h6, if_neg h7, if_neg h8, if_neg h9, if_neg h10, if_neg h11, if_pos h12] at q; exact absurd q (by decide)
    by_cases h13 : v = 1952541541
    · rw [if_neg h0, if_neg h1, if_neg h2, if_neg h3, if_neg h4, if_neg h5, if_neg h6, if_neg h7, if_neg h8, if_neg h9, if_neg h10, if_neg h11, if_neg h12, if_pos h13] at q; exact absurd q (by decide)
    by_cases h14 : v = 26982
    · rw [if_neg h0, if_neg h1, if_neg h2, if_neg h3, if_neg h4, if_neg h5, if_neg h6, if_neg h7, if_neg h8, if_neg h9, if_neg h10, if_neg h11, if_neg h12, if_neg h13, if_pos h14] at q; exact absurd q (by decide)
    by_cases h15 : v = 7237492
    · rw [if_neg h0, if_neg h1, if_neg h2, if_neg h3, if_neg h4, if_neg h5, if_neg h6, if_neg h7, if_neg h8, if_neg h9, if_neg h10, if_neg h11, if_neg h12, if_neg h13, if_neg h14, if_pos h15] at q; exact absurd q (by decide)
    by_cases h16 : v = 6385252
    · rw [if_neg h0, if_neg h1, if_neg h2, if_neg h3, if_neg h4, if_neg h5, if_neg h6, if_neg h7, if_neg h8, if_neg h9, if_neg h10, if_neg h11, if_neg h12, if_neg h13, if_neg h14, if_neg h15, if_pos h16] at q; exact absurd q (by decide)
    by_cases h17 : v = 28530
    · rw [if_neg h0, if_neg h1, if_neg h2, if_neg h3, if_neg h4, if_neg h5, if_neg h6, if_neg h7, if_neg h8, if_neg h9, if_neg h10, if_neg h11, if_neg h12, if_neg h13, if_neg h14, if_neg h15, if_neg h16, if_pos h17] at q; exact absurd q (by decide)
    rw [if_neg h0, if_neg h1, if_neg h2, if_neg h3, if_neg h4, if_neg h5, if_neg h6, if_neg h7, if_neg h8, if_neg h9, if_neg h10, if_neg h11, if_neg h12, if_neg h13, if_neg h14, if_neg h15, if_neg h16, if_neg h17] at q
    exact absurd q (by decide)
  · intro q; rw [q]; decide
theorem twd_5 (b : Int → Int) (n q : Int) : (twd b n q (512970880104 : Int64) = true) = (tw b n q = 5) := by
  have ha := le_all (b := b) (n := n) (p := q)
  unfold twd tw
  rw [decide_eq_true_eq]
  by_cases h : 0 < le_ b n q - q ∧ le_ b n q - q < 8
  · rw [if_pos h]
    have hl : ∀ j : Int, q ≤ j → j < q + (((le_ b n q - q).toNat : Nat) : Int) → 97 ≤ b j ∧ b j ≤ 122 := fun j j0 j1 => (of_decide_eq_true (ha.2.1 j j0 (by omega))).2
    have hr := wki_rg _ hl
    have hp := p256 (le_ b n q - q).toNat (by omega)
    rw [wk_i _ (by omega) hl]
    have e : (Int64.ofInt (wki b q (le_ b n q - q).toNat) = (512970880104 : Int64)) ↔ wki b q (le_ b n q - q).toNat = 512970880104 := by
      constructor
      · intro q1
        have := congrArg Int64.toInt q1
        rw [Int64.toInt_ofInt_of_le (by omega) (by omega)] at this
        exact this
      · intro q1; rw [q1]; rfl
    rw [e]
    apply propext
    exact ⟨fun r => (tws_5 _).mpr r.2.2, fun r => ⟨h.1, h.2, (tws_5 _).mp r⟩⟩
  · rw [if_neg h]
    apply propext
    exact ⟨fun r => absurd ⟨r.1, r.2.1⟩ h, fun r => absurd r (by decide)⟩
theorem tws_6 (v : Int) : tws v = 6 ↔ v = 6840691 := by
  constructor
  · intro q
    unfold tws at q
    by_cases h0 : v = 444351214452
    · rw [if_pos h0] at q; exact absurd q (by decide)
    by_cases h1 : v = 495740085093
    · rw [if_neg h0, if_pos h1] at q; exact absurd q (by decide)
    by_cases h2 : v = 1802071652
    · rw [if_neg h0, if_neg h1, if_pos h2] at q; exact absurd q (by decide)
    by_cases h3 : v = 1936292453
    · rw [if_neg h0, if_neg h1, if_neg h2, if_pos h3] at q; exact absurd q (by decide)
    by_cases h4 : v = 465625113971
    · rw [if_neg h0, if_neg h1, if_neg h2, if_neg h3, if_pos h4] at q; exact absurd q (by decide)
    by_cases h5 : v = 512970880104
    · rw [if_neg h0, if_neg h1, if_neg h2, if_neg h3, if_neg h4, if_pos h5] at q; exact absurd q (by decide)
    by_cases h6 : v = 6840691
    · exact h6
    by_cases h7 : v = 7501157
    · rw [if_neg h0, if_neg h1, if_neg h2, if_neg h3, if_neg h4, if_neg h5, if_neg h6, if_pos h7] at q; exact absurd q (by decide)
    by_cases h8 : v = 1718773093
    · rw [if_neg h0, if_neg h1, if_neg h2, if_neg h3, if_neg h4, if_neg h5, if_neg h6, if_neg h7, if_pos h8] at q; exact absurd q (by decide)
    by_cases h9 : v = 108187867505765
    · rw [if_neg h0, if_neg h1, if_neg h2, if_neg h3, if_neg h4, if_neg h5, if_neg h6, if_neg h7, if_neg h8, if_pos h9] at q; exact absurd q (by decide)
    by_cases h10 : v = 1835626085
    · rw [if_neg h0, if_neg h1, if_neg h2, if_neg h3, if_neg h4, if_neg h5, if_neg h6, if_neg h7, if_neg h8, if_neg h9, if_pos h10] at q; exact absurd q (by decide)
    by_cases h11 : v = 1953854062
    · rw [if_neg h0, if_neg h1, if_neg h2, if_neg h3, if_neg h4, if_neg h5, if_neg h6, if_neg h7, if_neg h8, if_neg h9, if_neg h10, if_pos h11] at q; exact absurd q (by decide)
    by_cases h12 : v = 1667328869
    · rw [if_neg h0, if_neg h1, if_neg h2, if_neg h3, if_neg h4, if_neg h5, if_neg h6, if_neg h7, if_neg h8, if_neg h9, if_neg h10, if_neg h11, if_pos h12] at q; exact absurd q (by decide)
    by_cases h13 : v = 1952541541
    · rw [if_neg h0, if_neg h1, if_neg h2, if_neg h3, if_neg h4, if_neg h5, if_neg h6, if_neg h7, if_neg h8, if_neg h9, if_neg h10, if_neg h11, if_neg h12, if_pos h13] at q; exact absurd q (by decide)
    by_cases h14 : v = 26982
    · rw [if_neg h0, if_neg h1, if_neg h2, if_neg h3, if_neg h4, if_neg h5, if_neg h6, if_neg h7, if_neg h8, if_neg h9, if_neg h10, if_neg h11, if_neg h12, if_neg h13, if_pos h14] at q; exact absurd q (by decide)
    by_cases h15 : v = 7237492
    · rw [if_neg h0, if_neg h1, if_neg h2, if_neg h3, if_neg h4, if_neg h5, if_neg h6, if_neg h7, if_neg h8, if_neg h9, if_neg h10, if_neg h11, if_neg h12, if_neg h13, if_neg h14, if_pos h15] at q; exact absurd q (by decide)
    by_cases h16 : v = 6385252
    · rw [if_neg h0, if_neg h1, if_neg h2, if_neg h3, if_neg h4, if_neg h5, if_neg h6, if_neg h7, if_neg h8, if_neg h9, if_neg h10, if_neg h11, if_neg h12, if_neg h13, if_neg h14, if_neg h15, if_pos h16] at q; exact absurd q (by decide)
    by_cases h17 : v = 28530
    · rw [if_neg h0, if_neg h1, if_neg h2, if_neg h3, if_neg h4, if_neg h5, if_neg h6, if_neg h7, if_neg h8, if_neg h9, if_neg h10, if_neg h11, if_neg h12, if_neg h13, if_neg h14, if_neg h15, if_neg h16, if_pos h17] at q; exact absurd q (by decide)
    rw [if_neg h0, if_neg h1, if_neg h2, if_neg h3, if_neg h4, if_neg h5, if_neg h6, if_neg h7, if_neg h8, if_neg h9, if_neg h10, if_neg h11, if_neg h12, if_neg h13, if_neg h14, if_neg h15, if_neg h16, if_neg h17] at q
    exact absurd q (by decide)
  · intro q; rw [q]; decide
theorem twd_6 (b : Int → Int) (n q : Int) : (twd b n q (6840691 : Int64) = true) = (tw b n q = 6) := by
  have ha := le_all (b := b) (n := n) (p := q)
  unfold twd tw
  rw [decide_eq_true_eq]
  by_cases h : 0 < le_ b n q - q ∧ le_ b n q - q < 8
  · rw [if_pos h]
    have hl : ∀ j : Int, q ≤ j → j < q + (((le_ b n q - q).toNat : Nat) : Int) → 97 ≤ b j ∧ b j ≤ 122 := fun j j0 j1 => (of_decide_eq_true (ha.2.1 j j0 (by omega))).2
    have hr := wki_rg _ hl
    have hp := p256 (le_ b n q - q).toNat (by omega)
    rw [wk_i _ (by omega) hl]
    have e : (Int64.ofInt (wki b q (le_ b n q - q).toNat) = (6840691 : Int64)) ↔ wki b q (le_ b n q - q).toNat = 6840691 := by
      constructor
      · intro q1
        have := congrArg Int64.toInt q1
        rw [Int64.toInt_ofInt_of_le (by omega) (by omega)] at this
        exact this
      · intro q1; rw [q1]; rfl
    rw [e]
    apply propext
    exact ⟨fun r => (tws_6 _).mpr r.2.2, fun r => ⟨h.1, h.2, (tws_6 _).mp r⟩⟩
  · rw [if_neg h]
    apply propext
    exact ⟨fun r => absurd ⟨r.1, r.2.1⟩ h, fun r => absurd r (by decide)⟩
theorem tws_7 (v : Int) : tws v = 7 ↔ v = 7501157 := by
  constructor
  · intro q
    unfold tws at q
    by_cases h0 : v = 444351214452
    · rw [if_pos h0] at q; exact absurd q (by decide)
    by_cases h1 : v = 495740085093
    · rw [if_neg h0, if_pos h1] at q; exact absurd q (by decide)
    by_cases h2 : v = 1802071652
    · rw [if_neg h0, if_neg h1, if_pos h2] at q; exact absurd q (by decide)
    by_cases h3 : v = 1936292453
    · rw [if_neg h0, if_neg h1, if_neg h2, if_pos h3] at q; exact absurd q (by decide)
    by_cases h4 : v = 465625113971
    · rw [if_neg h0, if_neg h1, if_neg h2, if_neg h3, if_pos h4] at q; exact absurd q (by decide)
    by_cases h5 : v = 512970880104
    · rw [if_neg h0, if_neg h1, if_neg h2, if_neg h3, if_neg h4, if_pos h5] at q; exact absurd q (by decide)
    by_cases h6 : v = 6840691
    · rw [if_neg h0, if_neg h1, if_neg h2, if_neg h3, if_neg h4, if_neg h5, if_pos h6] at q; exact absurd q (by decide)
    by_cases h7 : v = 7501157
    · exact h7
    by_cases h8 : v = 1718773093
    · rw [if_neg h0, if_neg h1, if_neg h2, if_neg h3, if_neg h4, if_neg h5, if_neg h6, if_neg h7, if_pos h8] at q; exact absurd q (by decide)
    by_cases h9 : v = 108187867505765
    · rw [if_neg h0, if_neg h1, if_neg h2, if_neg h3, if_neg h4, if_neg h5, if_neg h6, if_neg h7, if_neg h8, if_pos h9] at q; exact absurd q (by decide)
    by_cases h10 : v = 1835626085
    · rw [if_neg h0, if_neg h1, if_neg h2, if_neg h3, if_neg h4, if_neg h5, if_neg h6, if_neg h7, if_neg h8, if_neg h9, if_pos h10] at q; exact absurd q (by decide)
    by_cases h11 : v = 1953854062
    · rw [if_neg h0, if_neg h1, if_neg h2, if_neg h3, if_neg h4, if_neg h5, if_neg h6, if_neg h7, if_neg h8, if_neg h9, if_neg h10, if_pos h11] at q; exact absurd q (by decide)
    by_cases h12 : v = 1667328869
    · rw [if_neg h0, if_neg h1, if_neg h2, if_neg h3, if_neg h4, if_neg h5, if_neg h6, if_neg h7, if_neg h8, if_neg h9, if_neg h10, if_neg h11, if_pos h12] at q; exact absurd q (by decide)
    by_cases h13 : v = 1952541541
    · rw [if_neg h0, if_neg h1, if_neg h2, if_neg h3, if_neg h4, if_neg h5, if_neg h6, if_neg h7, if_neg h8, if_neg h9, if_neg h10, if_neg h11, if_neg h12, if_pos h13] at q; exact absurd q (by decide)
    by_cases h14 : v = 26982
    · rw [if_neg h0, if_neg h1, if_neg h2, if_neg h3, if_neg h4, if_neg h5, if_neg h6, if_neg h7, if_neg h8, if_neg h9, if_neg h10, if_neg h11, if_neg h12, if_neg h13, if_pos h14] at q; exact absurd q (by decide)
    by_cases h15 : v = 7237492
    · rw [if_neg h0, if_neg h1, if_neg h2, if_neg h3, if_neg h4, if_neg h5, if_neg h6, if_neg h7, if_neg h8, if_neg h9, if_neg h10, if_neg h11, if_neg h12, if_neg h13, if_neg h14, if_pos h15] at q; exact absurd q (by decide)
    by_cases h16 : v = 6385252
    · rw [if_neg h0, if_neg h1, if_neg h2, if_neg h3, if_neg h4, if_neg h5, if_neg h6, if_neg h7, if_neg h8, if_neg h9, if_neg h10, if_neg h11, if_neg h12, if_neg h13, if_neg h14, if_neg h15, if_pos h16] at q; exact absurd q (by decide)
    by_cases h17 : v = 28530
    · rw [if_neg h0, if_neg h1, if_neg h2, if_neg h3, if_neg h4, if_neg h5, if_neg h6, if_neg h7, if_neg h8, if_neg h9, if_neg h10, if_neg h11, if_neg h12, if_neg h13, if_neg h14, if_neg h15, if_neg h16, if_pos h17] at q; exact absurd q (by decide)
    rw [if_neg h0, if_neg h1, if_neg h2, if_neg h3, if_neg h4, if_neg h5, if_neg h6, if_neg h7, if_neg h8, if_neg h9, if_neg h10, if_neg h11, if_neg h12, if_neg h13, if_neg h14, if_neg h15, if_neg h16, if_neg h17] at q
    exact absurd q (by decide)
  · intro q; rw [q]; decide
theorem twd_7 (b : Int → Int) (n q : Int) : (twd b n q (7501157 : Int64) = true) = (tw b n q = 7) := by
  have ha := le_all (b := b) (n := n) (p := q)
  unfold twd tw
  rw [decide_eq_true_eq]
  by_cases h : 0 < le_ b n q - q ∧ le_ b n q - q < 8
  · rw [if_pos h]
    have hl : ∀ j : Int, q ≤ j → j < q + (((le_ b n q - q).toNat : Nat) : Int) → 97 ≤ b j ∧ b j ≤ 122 := fun j j0 j1 => (of_decide_eq_true (ha.2.1 j j0 (by omega))).2
    have hr := wki_rg _ hl
    have hp := p256 (le_ b n q - q).toNat (by omega)
    rw [wk_i _ (by omega) hl]
    have e : (Int64.ofInt (wki b q (le_ b n q - q).toNat) = (7501157 : Int64)) ↔ wki b q (le_ b n q - q).toNat = 7501157 := by
      constructor
      · intro q1
        have := congrArg Int64.toInt q1
        rw [Int64.toInt_ofInt_of_le (by omega) (by omega)] at this
        exact this
      · intro q1; rw [q1]; rfl
    rw [e]
    apply propext
    exact ⟨fun r => (tws_7 _).mpr r.2.2, fun r => ⟨h.1, h.2, (tws_7 _).mp r⟩⟩
  · rw [if_neg h]
    apply propext
    exact ⟨fun r => absurd ⟨r.1, r.2.1⟩ h, fun r => absurd r (by decide)⟩
theorem tws_8 (v : Int) : tws v = 8 ↔ v = 1718773093 := by
  constructor
  · intro q
    unfold tws at q
    by_cases h0 : v = 444351214452
    · rw [if_pos h0] at q; exact absurd q (by decide)
    by_cases h1 : v = 495740085093
    · rw [if_neg h0, if_pos h1] at q; exact absurd q (by decide)
    by_cases h2 : v = 1802071652
    · rw [if_neg h0, if_neg h1, if_pos h2] at q; exact absurd q (by decide)
    by_cases h3 : v = 1936292453
    · rw [if_neg h0, if_neg h1, if_neg h2, if_pos h3] at q; exact absurd q (by decide)
    by_cases h4 : v = 465625113971
    · rw [if_neg h0, if_neg h1, if_neg h2, if_neg h3, if_pos h4] at q; exact absurd q (by decide)
    by_cases h5 : v = 512970880104
    · rw [if_neg h0, if_neg h1, if_neg h2, if_neg h3, if_neg h4, if_pos h5] at q; exact absurd q (by decide)
    by_cases h6 : v = 6840691
    · rw [if_neg h0, if_neg h1, if_neg h2, if_neg h3, if_neg h4, if_neg h5, if_pos h6] at q; exact absurd q (by decide)
    by_cases h7 : v = 7501157
    · rw [if_neg h0, if_neg h1, if_neg h2, if_neg h3, if_neg h4, if_neg h5, if_neg h6, if_pos h7] at q; exact absurd q (by decide)
    by_cases h8 : v = 1718773093
    · exact h8
    by_cases h9 : v = 108187867505765
    · rw [if_neg h0, if_neg h1, if_neg h2, if_neg h3, if_neg h4, if_neg h5, if_neg h6, if_neg h7, if_neg h8, if_pos h9] at q; exact absurd q (by decide)
    by_cases h10 : v = 1835626085
    · rw [if_neg h0, if_neg h1, if_neg h2, if_neg h3, if_neg h4, if_neg h5, if_neg h6, if_neg h7, if_neg h8, if_neg h9, if_pos h10] at q; exact absurd q (by decide)
    by_cases h11 : v = 1953854062
    · rw [if_neg h0, if_neg h1, if_neg h2, if_neg h3, if_neg h4, if_neg h5, if_neg h6, if_neg h7, if_neg h8, if_neg h9, if_neg h10, if_pos h11] at q; exact absurd q (by decide)
    by_cases h12 : v = 1667328869
    · rw [if_neg h0, if_neg h1, if_neg h2, if_neg h3, if_neg h4, if_neg h5, if_neg h6, if_neg h7, if_neg h8, if_neg h9, if_neg h10, if_neg h11, if_pos h12] at q; exact absurd q (by decide)
    by_cases h13 : v = 1952541541
    · rw [if_neg h0, if_neg h1, if_neg h2, if_neg h3, if_neg h4, if_neg h5, if_neg h6, if_neg h7, if_neg h8, if_neg h9, if_neg h10, if_neg h11, if_neg h12, if_pos h13] at q; exact absurd q (by decide)
    by_cases h14 : v = 26982
    · rw [if_neg h0, if_neg h1, if_neg h2, if_neg h3, if_neg h4, if_neg h5, if_neg h6, if_neg h7, if_neg h8, if_neg h9, if_neg h10, if_neg h11, if_neg h12, if_neg h13, if_pos h14] at q; exact absurd q (by decide)
    by_cases h15 : v = 7237492
    · rw [if_neg h0, if_neg h1, if_neg h2, if_neg h3, if_neg h4, if_neg h5, if_neg h6, if_neg h7, if_neg h8, if_neg h9, if_neg h10, if_neg h11, if_neg h12, if_neg h13, if_neg h14, if_pos h15] at q; exact absurd q (by decide)
    by_cases h16 : v = 6385252
    · rw [if_neg h0, if_neg h1, if_neg h2, if_neg h3, if_neg h4, if_neg h5, if_neg h6, if_neg h7, if_neg h8, if_neg h9, if_neg h10, if_neg h11, if_neg h12, if_neg h13, if_neg h14, if_neg h15, if_pos h16] at q; exact absurd q (by decide)
    by_cases h17 : v = 28530
    · rw [if_neg h0, if_neg h1, if_neg h2, if_neg h3, if_neg h4, if_neg h5, if_neg h6, if_neg h7, if_neg h8, if_neg h9, if_neg h10, if_neg h11, if_neg h12, if_neg h13, if_neg h14, if_neg h15, if_neg h16, if_pos h17] at q; exact absurd q (by decide)
    rw [if_neg h0, if_neg h1, if_neg h2, if_neg h3, if_neg h4, if_neg h5, if_neg h6, if_neg h7, if_neg h8, if_neg h9, if_neg h10, if_neg h11, if_neg h12, if_neg h13, if_neg h14, if_neg h15, if_neg h16, if_neg h17] at q
    exact absurd q (by decide)
  · intro q; rw [q]; decide
theorem twd_8 (b : Int → Int) (n q : Int) : (twd b n q (1718773093 : Int64) = true) = (tw b n q = 8) := by
  have ha := le_all (b := b) (n := n) (p := q)
  unfold twd tw
  rw [decide_eq_true_eq]
  by_cases h : 0 < le_ b n q - q ∧ le_ b n q - q < 8
  · rw [if_pos h]
    have hl : ∀ j : Int, q ≤ j → j < q + (((le_ b n q - q).toNat : Nat) : Int) → 97 ≤ b j ∧ b j ≤ 122 := fun j j0 j1 => (of_decide_eq_true (ha.2.1 j j0 (by omega))).2
    have hr := wki_rg _ hl
    have hp := p256 (le_ b n q - q).toNat (by omega)
    rw [wk_i _ (by omega) hl]
    have e : (Int64.ofInt (wki b q (le_ b n q - q).toNat) = (1718773093 : Int64)) ↔ wki b q (le_ b n q - q).toNat = 1718773093 := by
      constructor
      · intro q1
        have := congrArg Int64.toInt q1
        rw [Int64.toInt_ofInt_of_le (by omega) (by omega)] at this
        exact this
      · intro q1; rw [q1]; rfl
    rw [e]
    apply propext
    exact ⟨fun r => (tws_8 _).mpr r.2.2, fun r => ⟨h.1, h.2, (tws_8 _).mp r⟩⟩
  · rw [if_neg h]
    apply propext
    exact ⟨fun r => absurd ⟨r.1, r.2.1⟩ h, fun r => absurd r (by decide)⟩
theorem tws_9 (v : Int) : tws v = 9 ↔ v = 108187867505765 := by
  constructor
  · intro q
    unfold tws at q
    by_cases h0 : v = 444351214452
    · rw [if_pos h0] at q; exact absurd q (by decide)
    by_cases h1 : v = 495740085093
    · rw [if_neg h0, if_pos h1] at q; exact absurd q (by decide)
    by_cases h2 : v = 1802071652
    · rw [if_neg h0, if_neg h1, if_pos h2] at q; exact absurd q (by decide)
    by_cases h3 : v = 1936292453
    · rw [if_neg h0, if_neg h1, if_neg h2, if_pos h3] at q; exact absurd q (by decide)
    by_cases h4 : v = 465625113971
    · rw [if_neg h0, if_neg h1, if_neg h2, if_neg h3, if_pos h4] at q; exact absurd q (by decide)
    by_cases h5 : v = 512970880104
    · rw [if_neg h0, if_neg h1, if_neg h2, if_neg h3, if_neg h4, if_pos h5] at q; exact absurd q (by decide)
    by_cases h6 : v = 6840691
    · rw [if_neg h0, if_neg h1, if_neg h2, if_neg h3, if_neg h4, if_neg h5, if_pos h6] at q; exact absurd q (by decide)
    by_cases h7 : v = 7501157
    · rw [if_neg h0, if_neg h1, if_neg h2, if_neg h3, if_neg h4, if_neg h5, if_neg h6, if_pos h7] at q; exact absurd q (by decide)
    by_cases h8 : v = 1718773093
    · rw [if_neg h0, if_neg h1, if_neg h2, if_neg h3, if_neg h4, if_neg h5, if_neg h6, if_neg h7, if_pos h8] at q; exact absurd q (by decide)
    by_cases h9 : v = 108187867505765
    · exact h9
    by_cases h10 : v = 1835626085
    · rw [if_neg h0, if_neg h1, if_neg h2, if_neg h3, if_neg h4, if_neg h5, if_neg h6, if_neg h7, if_neg h8, if_neg h9, if_pos h10] at q; exact absurd q (by decide)
    by_cases h11 : v = 1953854062
    · rw [if_neg h0, if_neg h1, if_neg h2, if_neg h3, if_neg h4, if_neg h5, if_neg h6, if_neg h7, if_neg h8, if_neg h9, if_neg h10, if_pos h11] at q; exact absurd q (by decide)
    by_cases h12 : v = 1667328869
    · rw [if_neg h0, if_neg h1, if_neg h2, if_neg h3, if_neg h4, if_neg h5, if_neg h6, if_neg h7, if_neg h8, if_neg h9, if_neg h10, if_neg h11, if_pos h12] at q; exact absurd q (by decide)
    by_cases h13 : v = 1952541541
    · rw [if_neg h0, if_neg h1, if_neg h2, if_neg h3, if_neg h4, if_neg h5, if_neg h6, if_neg h7, if_neg h8, if_neg h9, if_neg h10, if_neg h11, if_neg h12, if_pos h13] at q; exact absurd q (by decide)
    by_cases h14 : v = 26982
    · rw [if_neg h0, if_neg h1, if_neg h2, if_neg h3, if_neg h4, if_neg h5, if_neg h6, if_neg h7, if_neg h8, if_neg h9, if_neg h10, if_neg h11, if_neg h12, if_neg h13, if_pos h14] at q; exact absurd q (by decide)
    by_cases h15 : v = 7237492
    · rw [if_neg h0, if_neg h1, if_neg h2, if_neg h3, if_neg h4, if_neg h5, if_neg h6, if_neg h7, if_neg h8, if_neg h9, if_neg h10, if_neg h11, if_neg h12, if_neg h13, if_neg h14, if_pos h15] at q; exact absurd q (by decide)
    by_cases h16 : v = 6385252
    · rw [if_neg h0, if_neg h1, if_neg h2, if_neg h3, if_neg h4, if_neg h5, if_neg h6, if_neg h7, if_neg h8, if_neg h9, if_neg h10, if_neg h11, if_neg h12, if_neg h13, if_neg h14, if_neg h15, if_pos h16] at q; exact absurd q (by decide)
    by_cases h17 : v = 28530
    · rw [if_neg h0, if_neg h1, if_neg h2, if_neg h3, if_neg h4, if_neg h5, if_neg h6, if_neg h7, if_neg h8, if_neg h9, if_neg h10, if_neg h11, if_neg h12, if_neg h13, if_neg h14, if_neg h15, if_neg h16, if_pos h17] at q; exact absurd q (by decide)
    rw [if_neg h0, if_neg h1, if_neg h2, if_neg h3, if_neg h4, if_neg h5, if_neg h6, if_neg h7, if_neg h8, if_neg h9, if_neg h10, if_neg h11, if_neg h12, if_neg h13, if_neg h14, if_neg h15, if_neg h16, if_neg h17] at q
    exact absurd q (by decide)
  · intro q; rw [q]; decide
theorem twd_9 (b : Int → Int) (n q : Int) : (twd b n q (108187867505765 : Int64) = true) = (tw b n q = 9) := by
  have ha := le_all (b := b) (n := n) (p := q)
  unfold twd tw
  rw [decide_eq_true_eq]
  by_cases h : 0 < le_ b n q - q ∧ le_ b n q - q < 8
  · rw [if_pos h]
    have hl : ∀ j : Int, q ≤ j → j < q + (((le_ b n q - q).toNat : Nat) : Int) → 97 ≤ b j ∧ b j ≤ 122 := fun j j0 j1 => (of_decide_eq_true (ha.2.1 j j0 (by omega))).2
    have hr := wki_rg _ hl
    have hp := p256 (le_ b n q - q).toNat (by omega)
    rw [wk_i _ (by omega) hl]
    have e : (Int64.ofInt (wki b q (le_ b n q - q).toNat) = (108187867505765 : Int64)) ↔ wki b q (le_ b n q - q).toNat = 108187867505765 := by
      constructor
      · intro q1
        have := congrArg Int64.toInt q1
        rw [Int64.toInt_ofInt_of_le (by omega) (by omega)] at this
        exact this
      · intro q1; rw [q1]; rfl
    rw [e]
    apply propext
    exact ⟨fun r => (tws_9 _).mpr r.2.2, fun r => ⟨h.1, h.2, (tws_9 _).mp r⟩⟩
  · rw [if_neg h]
    apply propext
    exact ⟨fun r => absurd ⟨r.1, r.2.1⟩ h, fun r => absurd r (by decide)⟩
theorem tws_10 (v : Int) : tws v = 10 ↔ v = 1835626085 := by
  constructor
  · intro q
    unfold tws at q
    by_cases h0 : v = 444351214452
    · rw [if_pos h0] at q; exact absurd q (by decide)
    by_cases h1 : v = 495740085093
    · rw [if_neg h0, if_pos h1] at q; exact absurd q (by decide)
    by_cases h2 : v = 1802071652
    · rw [if_neg h0, if_neg h1, if_pos h2] at q; exact absurd q (by decide)
    by_cases h3 : v = 1936292453
    · rw [if_neg h0, if_neg h1, if_neg h2, if_pos h3] at q; exact absurd q (by decide)
    by_cases h4 : v = 465625113971
    · rw [if_neg h0, if_neg h1, if_neg h2, if_neg h3, if_pos h4] at q; exact absurd q (by decide)
    by_cases h5 : v = 512970880104
    · rw [if_neg h0, if_neg h1, if_neg h2, if_neg h3, if_neg h4, if_pos h5] at q; exact absurd q (by decide)
    by_cases h6 : v = 6840691
    · rw [if_neg h0, if_neg h1, if_neg h2, if_neg h3, if_neg h4, if_neg h5, if_pos h6] at q; exact absurd q (by decide)
    by_cases h7 : v = 7501157
    · rw [if_neg h0, if_neg h1, if_neg h2, if_neg h3, if_neg h4, if_neg h5, if_neg h6, if_pos h7] at q; exact absurd q (by decide)
    by_cases h8 : v = 1718773093
    · rw [if_neg h0, if_neg h1, if_neg h2, if_neg h3, if_neg h4, if_neg h5, if_neg h6, if_neg h7, if_pos h8] at q; exact absurd q (by decide)
    by_cases h9 : v = 108187867505765
    · rw [if_neg h0, if_neg h1, if_neg h2, if_neg h3, if_neg h4, if_neg h5, if_neg h6, if_neg h7, if_neg h8, if_pos h9] at q; exact absurd q (by decide)
    by_cases h10 : v = 1835626085
    · exact h10
    by_cases h11 : v = 1953854062
    · rw [if_neg h0, if_neg h1, if_neg h2, if_neg h3, if_neg h4, if_neg h5, if_neg h6, if_neg h7, if_neg h8, if_neg h9, if_neg h10, if_pos h11] at q; exact absurd q (by decide)
    by_cases h12 : v = 1667328869
    · rw [if_neg h0, if_neg h1, if_neg h2, if_neg h3, if_neg h4, if_neg h5, if_neg h6, if_neg h7, if_neg h8, if_neg h9, if_neg h10, if_neg h11, if_pos h12] at q; exact absurd q (by decide)
    by_cases h13 : v = 1952541541
    · rw [if_neg h0, if_neg h1, if_neg h2, if_neg h3, if_neg h4, if_neg h5, if_neg h6, if_neg h7, if_neg h8, if_neg h9, if_neg h10, if_neg h11, if_neg h12, if_pos h13] at q; exact absurd q (by decide)
    by_cases h14 : v = 26982
    · rw [if_neg h0, if_neg h1, if_neg h2, if_neg h3, if_neg h4, if_neg h5, if_neg h6, if_neg h7, if_neg h8, if_neg h9, if_neg h10, if_neg h11, if_neg h12, if_neg h13, if_pos h14] at q; exact absurd q (by decide)
    by_cases h15 : v = 7237492
    · rw [if_neg h0, if_neg h1, if_neg h2, if_neg h3, if_neg h4, if_neg h5, if_neg h6, if_neg h7, if_neg h8, if_neg h9, if_neg h10, if_neg h11, if_neg h12, if_neg h13, if_neg h14, if_pos h15] at q; exact absurd q (by decide)
    by_cases h16 : v = 6385252
    · rw [if_neg h0, if_neg h1, if_neg h2, if_neg h3, if_neg h4, if_neg h5, if_neg h6, if_neg h7, if_neg h8, if_neg h9, if_neg h10, if_neg h11, if_neg h12, if_neg h13, if_neg h14, if_neg h15, if_pos h16] at q; exact absurd q (by decide)
    by_cases h17 : v = 28530
    · rw [if_neg h0, if_neg h1, if_neg h2, if_neg h3, if_neg h4, if_neg h5, if_neg h6, if_neg h7, if_neg h8, if_neg h9, if_neg h10, if_neg h11, if_neg h12, if_neg h13, if_neg h14, if_neg h15, if_neg h16, if_pos h17] at q; exact absurd q (by decide)
    rw [if_neg h0, if_neg h1, if_neg h2, if_neg h3, if_neg h4, if_neg h5, if_neg h6, if_neg h7, if_neg h8, if_neg h9, if_neg h10, if_neg h11, if_neg h12, if_neg h13, if_neg h14, if_neg h15, if_neg h16, if_neg h17] at q
    exact absurd q (by decide)
  · intro q; rw [q]; decide
theorem twd_10 (b : Int → Int) (n q : Int) : (twd b n q (1835626085 : Int64) = true) = (tw b n q = 10) := by
  have ha := le_all (b := b) (n := n) (p := q)
  unfold twd tw
  rw [decide_eq_true_eq]
  by_cases h : 0 < le_ b n q - q ∧ le_ b n q - q < 8
  · rw [if_pos h]
    have hl : ∀ j : Int, q ≤ j → j < q + (((le_ b n q - q).toNat : Nat) : Int) → 97 ≤ b j ∧ b j ≤ 122 := fun j j0 j1 => (of_decide_eq_true (ha.2.1 j j0 (by omega))).2
    have hr := wki_rg _ hl
    have hp := p256 (le_ b n q - q).toNat (by omega)
    rw [wk_i _ (by omega) hl]
    have e : (Int64.ofInt (wki b q (le_ b n q - q).toNat) = (1835626085 : Int64)) ↔ wki b q (le_ b n q - q).toNat = 1835626085 := by
      constructor
      · intro q1
        have := congrArg Int64.toInt q1
        rw [Int64.toInt_ofInt_of_le (by omega) (by omega)] at this
        exact this
      · intro q1; rw [q1]; rfl
    rw [e]
    apply propext
    exact ⟨fun r => (tws_10 _).mpr r.2.2, fun r => ⟨h.1, h.2, (tws_10 _).mp r⟩⟩
  · rw [if_neg h]
    apply propext
    exact ⟨fun r => absurd ⟨r.1, r.2.1⟩ h, fun r => absurd r (by decide)⟩
theorem tws_11 (v : Int) : tws v = 11 ↔ v = 1953854062 := by
  constructor
  · intro q
    unfold tws at q
    by_cases h0 : v = 444351214452
    · rw [if_pos h0] at q; exact absurd q (by decide)
    by_cases h1 : v = 495740085093
    · rw [if_neg h0, if_pos h1] at q; exact absurd q (by decide)
    by_cases h2 : v = 1802071652
    · rw [if_neg h0, if_neg h1, if_pos h2] at q; exact absurd q (by decide)
    by_cases h3 : v = 1936292453
    · rw [if_neg h0, if_neg h1, if_neg h2, if_pos h3] at q; exact absurd q (by decide)
    by_cases h4 : v = 465625113971
    · rw [if_neg h0, if_neg h1, if_neg h2, if_neg h3, if_pos h4] at q; exact absurd q (by decide)
    by_cases h5 : v = 512970880104
    · rw [if_neg h0, if_neg h1, if_neg h2, if_neg h3, if_neg h4, if_pos h5] at q; exact absurd q (by decide)
    by_cases h6 : v = 6840691
    · rw [if_neg h0, if_neg h1, if_neg h2, if_neg h3, if_neg h4, if_neg h5, if_pos h6] at q; exact absurd q (by decide)
    by_cases h7 : v = 7501157
    · rw [if_neg h0, if_neg h1, if_neg h2, if_neg h3, if_neg h4, if_neg h5, if_neg h6, if_pos h7] at q; exact absurd q (by decide)
    by_cases h8 : v = 1718773093
    · rw [if_neg h0, if_neg h1, if_neg h2, if_neg h3, if_neg h4, if_neg h5, if_neg h6, if_neg h7, if_pos h8] at q; exact absurd q (by decide)
    by_cases h9 : v = 108187867505765
    · rw [if_neg h0, if_neg h1, if_neg h2, if_neg h3, if_neg h4, if_neg h5, if_neg h6, if_neg h7, if_neg h8, if_pos h9] at q; exact absurd q (by decide)
    by_cases h10 : v = 1835626085
    · rw [if_neg h0, if_neg h1, if_neg h2, if_neg h3, if_neg h4, if_neg h5, if_neg h6, if_neg h7, if_neg h8, if_neg h9, if_pos h10] at q; exact absurd q (by decide)
    by_cases h11 : v = 1953854062
    · exact h11
    by_cases h12 : v = 1667328869
    · rw [if_neg h0, if_neg h1, if_neg h2, if_neg h3, if_neg h4, if_neg h5, if_neg h6, if_neg h7, if_neg h8, if_neg h9, if_neg h10, if_neg h11, if_pos h12] at q; exact absurd q (by decide)
    by_cases h13 : v = 1952541541
    · rw [if_neg h0, if_neg h1, if_neg h2, if_neg h3, if_neg h4, if_neg h5, if_neg h6, if_neg h7, if_neg h8, if_neg h9, if_neg h10, if_neg h11, if_neg h12, if_pos h13] at q; exact absurd q (by decide)
    by_cases h14 : v = 26982
    · rw [if_neg h0, if_neg h1, if_neg h2, if_neg h3, if_neg h4, if_neg h5, if_neg h6, if_neg h7, if_neg h8, if_neg h9, if_neg h10, if_neg h11, if_neg h12, if_neg h13, if_pos h14] at q; exact absurd q (by decide)
    by_cases h15 : v = 7237492
    · rw [if_neg h0, if_neg h1, if_neg h2, if_neg h3, if_neg h4, if_neg h5, if_neg h6, if_neg h7, if_neg h8, if_neg h9, if_neg h10, if_neg h11, if_neg h12, if_neg h13, if_neg h14, if_pos h15] at q; exact absurd q (by decide)
    by_cases h16 : v = 6385252
    · rw [if_neg h0, if_neg h1, if_neg h2, if_neg h3, if_neg h4, if_neg h5, if_neg h6, if_neg h7, if_neg h8, if_neg h9, if_neg h10, if_neg h11, if_neg h12, if_neg h13, if_neg h14, if_neg h15, if_pos h16] at q; exact absurd q (by decide)
    by_cases h17 : v = 28530
    · rw [if_neg h0, if_neg h1, if_neg h2, if_neg h3, if_neg h4, if_neg h5, if_neg h6, if_neg h7, if_neg h8, if_neg h9, if_neg h10, if_neg h11, if_neg h12, if_neg h13, if_neg h14, if_neg h15, if_neg h16, if_pos h17] at q; exact absurd q (by decide)
    rw [if_neg h0, if_neg h1, if_neg h2, if_neg h3, if_neg h4, if_neg h5, if_neg h6, if_neg h7, if_neg h8, if_neg h9, if_neg h10, if_neg h11, if_neg h12, if_neg h13, if_neg h14, if_neg h15, if_neg h16, if_neg h17] at q
    exact absurd q (by decide)
  · intro q; rw [q]; decide
theorem twd_11 (b : Int → Int) (n q : Int) : (twd b n q (1953854062 : Int64) = true) = (tw b n q = 11) := by
  have ha := le_all (b := b) (n := n) (p := q)
  unfold twd tw
  rw [decide_eq_true_eq]
  by_cases h : 0 < le_ b n q - q ∧ le_ b n q - q < 8
  · rw [if_pos h]
    have hl : ∀ j : Int, q ≤ j → j < q + (((le_ b n q - q).toNat : Nat) : Int) → 97 ≤ b j ∧ b j ≤ 122 := fun j j0 j1 => (of_decide_eq_true (ha.2.1 j j0 (by omega))).2
    have hr := wki_rg _ hl
    have hp := p256 (le_ b n q - q).toNat (by omega)
    rw [wk_i _ (by omega) hl]
    have e : (Int64.ofInt (wki b q (le_ b n q - q).toNat) = (1953854062 : Int64)) ↔ wki b q (le_ b n q - q).toNat = 1953854062 := by
      constructor
      · intro q1
        have := congrArg Int64.toInt q1
        rw [Int64.toInt_ofInt_of_le (by omega) (by omega)] at this
        exact this
      · intro q1; rw [q1]; rfl
    rw [e]
    apply propext
    exact ⟨fun r => (tws_11 _).mpr r.2.2, fun r => ⟨h.1, h.2, (tws_11 _).mp r⟩⟩
  · rw [if_neg h]
    apply propext
    exact ⟨fun r => absurd ⟨r.1, r.2.1⟩ h, fun r => absurd r (by decide)⟩
theorem tws_12 (v : Int) : tws v = 12 ↔ v = 1667328869 := by
  constructor
  · intro q
    unfold tws at q
    by_cases h0 : v = 444351214452
    · rw [if_pos h0] at q; exact absurd q (by decide)
    by_cases h1 : v = 495740085093
    · rw [if_neg h0, if_pos h1] at q; exact absurd q (by decide)
    by_cases h2 : v = 1802071652
    · rw [if_neg h0, if_neg h1, if_pos h2] at q; exact absurd q (by decide)
    by_cases h3 : v = 1936292453
    · rw [if_neg h0, if_neg h1, if_neg h2, if_pos h3] at q; exact absurd q (by decide)
    by_cases h4 : v = 465625113971
    · rw [if_neg h0, if_neg h1, if_neg h2, if_neg h3, if_pos h4] at q; exact absurd q (by decide)
    by_cases h5 : v = 512970880104
    · rw [if_neg h0, if_neg h1, if_neg h2, if_neg h3, if_neg h4, if_pos h5] at q; exact absurd q (by decide)
    by_cases h6 : v = 6840691
    · rw [if_neg h0, if_neg h1, if_neg h2, if_neg h3, if_neg h4, if_neg h5, if_pos h6] at q; exact absurd q (by decide)
    by_cases h7 : v = 7501157
    · rw [if_neg h0, if_neg h1, if_neg h2, if_neg h3, if_neg h4, if_neg h5, if_neg h6, if_pos h7] at q; exact absurd q (by decide)
    by_cases h8 : v = 1718773093
    · rw [if_neg h0, if_neg h1, if_neg h2, if_neg h3, if_neg h4, if_neg h5, if_neg h6, if_neg h7, if_pos h8] at q; exact absurd q (by decide)
    by_cases h9 : v = 108187867505765
    · rw [if_neg h0, if_neg h1, if_neg h2, if_neg h3, if_neg h4, if_neg h5, if_neg h6, if_neg h7, if_neg h8, if_pos h9] at q; exact absurd q (by decide)
    by_cases h10 : v = 1835626085
    · rw [if_neg h0, if_neg h1, if_neg h2, if_neg h3, if_neg h4, if_neg h5, if_neg h6, if_neg h7, if_neg h8, if_neg h9, if_pos h10] at q; exact absurd q (by decide)
    by_cases h11 : v = 1953854062
    · rw [if_neg h0, if_neg h1, if_neg h2, if_neg h3, if_neg h4, if_neg h5, if_neg h6, if_neg h7, if_neg h8, if_neg h9, if_neg h10, if_pos h11] at q; exact absurd q (by decide)
    by_cases h12 : v = 1667328869
    · exact h12
    by_cases h13 : v = 1952541541
    · rw [if_neg h0, if_neg h1, if_neg h2, if_neg h3, if_neg h4, if_neg h5, if_neg h6, if_neg h7, if_neg h8, if_neg h9, if_neg h10, if_neg h11, if_neg h12, if_pos h13] at q; exact absurd q (by decide)
    by_cases h14 : v = 26982
    · rw [if_neg h0, if_neg h1, if_neg h2, if_neg h3, if_neg h4, if_neg h5, if_neg h6, if_neg h7, if_neg h8, if_neg h9, if_neg h10, if_neg h11, if_neg h12, if_neg h13, if_pos h14] at q; exact absurd q (by decide)
    by_cases h15 : v = 7237492
    · rw [if_neg h0, if_neg h1, if_neg h2, if_neg h3, if_neg h4, if_neg h5, if_neg h6, if_neg h7, if_neg h8, if_neg h9, if_neg h10, if_neg h11, if_neg h12, if_neg h13, if_neg h14, if_pos h15] at q; exact absurd q (by decide)
    by_cases h16 : v = 6385252
    · rw [if_neg h0, if_neg h1, if_neg h2, if_neg h3, if_neg h4, if_neg h5, if_neg h6, if_neg h7, if_neg h8, if_neg h9, if_neg h10, if_neg h11, if_neg h12, if_neg h13, if_neg h14, if_neg h15, if_pos h16] at q; exact absurd q (by decide)
    by_cases h17 : v = 28530
    · rw [if_neg h0, if_neg h1, if_neg h2, if_neg h3, if_neg h4, if_neg h5, if_neg h6, if_neg h7, if_neg h8, if_neg h9, if_neg h10, if_neg h11, if_neg h12, if_neg h13, if_neg h14, if_neg h15, if_neg h16, if_pos h17] at q; exact absurd q (by decide)
    rw [if_neg h0, if_neg h1, if_neg h2, if_neg h3, if_neg h4, if_neg h5, if_neg h6, if_neg h7, if_neg h8, if_neg h9, if_neg h10, if_neg h11, if_neg h12, if_neg h13, if_neg h14, if_neg h15, if_neg h16, if_neg h17] at q
    exact absurd q (by decide)
  · intro q; rw [q]; decide
theorem twd_12 (b : Int → Int) (n q : Int) : (twd b n q (1667328869 : Int64) = true) = (tw b n q = 12) := by
  have ha := le_all (b := b) (n := n) (p := q)
  unfold twd tw
  rw [decide_eq_true_eq]
  by_cases h : 0 < le_ b n q - q ∧ le_ b n q - q < 8
  · rw [if_pos h]
    have hl : ∀ j : Int, q ≤ j → j < q + (((le_ b n q - q).toNat : Nat) : Int) → 97 ≤ b j ∧ b j ≤ 122 := fun j j0 j1 => (of_decide_eq_true (ha.2.1 j j0 (by omega))).2
    have hr := wki_rg _ hl
    have hp := p256 (le_ b n q - q).toNat (by omega)
    rw [wk_i _ (by omega) hl]
    have e : (Int64.ofInt (wki b q (le_ b n q - q).toNat) = (1667328869 : Int64)) ↔ wki b q (le_ b n q - q).toNat = 1667328869 := by
      constructor
      · intro q1
        have := congrArg Int64.toInt q1
        rw [Int64.toInt_ofInt_of_le (by omega) (by omega)] at this
        exact this
      · intro q1; rw [q1]; rfl
    rw [e]
    apply propext
    exact ⟨fun r => (tws_12 _).mpr r.2.2, fun r => ⟨h.1, h.2, (tws_12 _).mp r⟩⟩
  · rw [if_neg h]
    apply propext
    exact ⟨fun r => absurd ⟨r.1, r.2.1⟩ h, fun r => absurd r (by decide)⟩
theorem tws_13 (v : Int) : tws v = 13 ↔ v = 1952541541 := by
  constructor
  · intro q
    unfold tws at q
    by_cases h0 : v = 444351214452
    · rw [if_pos h0] at q; exact absurd q (by decide)
    by_cases h1 : v = 495740085093
    · rw [if_neg h0, if_pos h1] at q; exact absurd q (by decide)
    by_cases h2 : v = 1802071652
    · rw [if_neg h0, if_neg h1, if_pos h2] at q; exact absurd q (by decide)
    by_cases h3 : v = 1936292453
    · rw [if_neg h0, if_neg h1, if_neg h2, if_pos h3] at q; exact absurd q (by decide)
    by_cases h4 : v = 465625113971
    · rw [if_neg h0, if_neg h1, if_neg h2, if_neg h3, if_pos h4] at q; exact absurd q (by decide)
    by_cases h5 : v = 512970880104
    · rw [if_neg h0, if_neg h1, if_neg h2, if_neg h3, if_neg h4, if_pos h5] at q; exact absurd q (by decide)
    by_cases h6 : v = 6840691
    · rw [if_neg h0, if_neg h1, if_neg h2, if_neg h3, if_neg h4, if_neg h5, if_pos h6] at q; exact absurd q (by decide)
    by_cases h7 : v = 7501157
    · rw [if_neg h0, if_neg h1, if_neg h2, if_neg h3, if_neg h4, if_neg h5, if_neg h6, if_pos h7] at q; exact absurd q (by decide)
    by_cases h8 : v = 1718773093
    · rw [if_neg h0, if_neg h1, if_neg h2, if_neg h3, if_neg h4, if_neg h5, if_neg h6, if_neg h7, if_pos h8] at q; exact absurd q (by decide)
    by_cases h9 : v = 108187867505765
    · rw [if_neg h0, if_neg h1, if_neg h2, if_neg h3, if_neg h4, if_neg h5, if_neg h6, if_neg h7, if_neg h8, if_pos h9] at q; exact absurd q (by decide)
    by_cases h10 : v = 1835626085
    · rw [if_neg h0, if_neg h1, if_neg h2, if_neg h3, if_neg h4, if_neg h5, if_neg h6, if_neg h7, if_neg h8, if_neg h9, if_pos h10] at q; exact absurd q (by decide)
    by_cases h11 : v = 1953854062
    · rw [if_neg h0, if_neg h1, if_neg h2, if_neg h3, if_neg h4, if_neg h5, if_neg h6, if_neg h7, if_neg h8, if_neg h9, if_neg h10, if_pos h11] at q; exact absurd q (by decide)
    by_cases h12 : v = 1667328869
    · rw [if_neg h0, if_neg h1, if_neg h2, if_neg h3, if_neg h4, if_neg h5, if_neg h6, if_neg h7, if_neg h8, if_neg h9, if_neg h10, if_neg h11, if_pos h12] at q; exact absurd q (by decide)
    by_cases h13 : v = 1952541541
    · exact h13
    by_cases h14 : v = 26982
    · rw [if_neg h0, if_neg h1, if_neg h2, if_neg h3, if_neg h4, if_neg h5, if_neg h6, if_neg h7, if_neg h8, if_neg h9, if_neg h10, if_neg h11, if_neg h12, if_neg h13, if_pos h14] at q; exact absurd q (by decide)
    by_cases h15 : v = 7237492
    · rw [if_neg h0, if_neg h1, if_neg h2, if_neg h3, if_neg h4, if_neg h5, if_neg h6, if_neg h7, if_neg h8, if_neg h9, if_neg h10, if_neg h11, if_neg h12, if_neg h13, if_neg h14, if_pos h15] at q; exact absurd q (by decide)
    by_cases h16 : v = 6385252
    · rw [if_neg h0, if_neg h1, if_neg h2, if_neg h3, if_neg h4, if_neg h5, if_neg h6, if_neg h7, if_neg h8, if_neg h9, if_neg h10, if_neg h11, if_neg h12, if_neg h13, if_neg h14, if_neg h15, if_pos h16] at q; exact absurd q (by decide)
    by_cases h17 : v = 28530
    · rw [if_neg h0, if_neg h1, if_neg h2, if_neg h3, if_neg h4, if_neg h5, if_neg h6, if_neg h7, if_neg h8, if_neg h9, if_neg h10, if_neg h11, if_neg h12, if_neg h13, if_neg h14, if_neg h15, if_neg h16, if_pos h17] at q; exact absurd q (by decide)
    rw [if_neg h0, if_neg h1, if_neg h2, if_neg h3, if_neg h4, if_neg h5, if_neg h6, if_neg h7, if_neg h8, if_neg h9, if_neg h10, if_neg h11, if_neg h12, if_neg h13, if_neg h14, if_neg h15, if_neg h16, if_neg h17] at q
    exact absurd q (by decide)
  · intro q; rw [q]; decide
theorem twd_13 (b : Int → Int) (n q : Int) : (twd b n q (1952541541 : Int64) = true) = (tw b n q = 13) := by
  have ha := le_all (b := b) (n := n) (p := q)
  unfold twd tw
  rw [decide_eq_true_eq]
  by_cases h : 0 < le_ b n q - q ∧ le_ b n q - q < 8
  · rw [if_pos h]
    have hl : ∀ j : Int, q ≤ j → j < q + (((le_ b n q - q).toNat : Nat) : Int) → 97 ≤ b j ∧ b j ≤ 122 := fun j j0 j1 => (of_decide_eq_true (ha.2.1 j j0 (by omega))).2
    have hr := wki_rg _ hl
    have hp := p256 (le_ b n q - q).toNat (by omega)
    rw [wk_i _ (by omega) hl]
    have e : (Int64.ofInt (wki b q (le_ b n q - q).toNat) = (1952541541 : Int64)) ↔ wki b q (le_ b n q - q).toNat = 1952541541 := by
      constructor
      · intro q1
        have := congrArg Int64.toInt q1
        rw [Int64.toInt_ofInt_of_le (by omega) (by omega)] at this
        exact this
      · intro q1; rw [q1]; rfl
    rw [e]
    apply propext
    exact ⟨fun r => (tws_13 _).mpr r.2.2, fun r => ⟨h.1, h.2, (tws_13 _).mp r⟩⟩
  · rw [if_neg h]
    apply propext
    exact ⟨fun r => absurd ⟨r.1, r.2.1⟩ h, fun r => absurd r (by decide)⟩
theorem tws_14 (v : Int) : tws v = 14 ↔ v = 26982 := by
  constructor
  · intro q
    unfold tws at q
    by_cases h0 : v = 444351214452
    · rw [if_pos h0] at q; exact absurd q (by decide)
    by_cases h1 : v = 495740085093
    · rw [if_neg h0, if_pos h1] at q; exact absurd q (by decide)
    by_cases h2 : v = 1802071652
    · rw [if_neg h0, if_neg h1, if_pos h2] at q; exact absurd q (by decide)
    by_cases h3 : v = 1936292453
    · rw [if_neg h0, if_neg h1, if_neg h2, if_pos h3] at q; exact absurd q (by decide)
    by_cases h4 : v = 465625113971
    · rw [if_neg h0, if_neg h1, if_neg h2, if_neg h3, if_pos h4] at q; exact absurd q (by decide)
    by_cases h5 : v = 512970880104
    · rw [if_neg h0, if_neg h1, if_neg h2, if_neg h3, if_neg h4, if_pos h5] at q; exact absurd q (by decide)
    by_cases h6 : v = 6840691
    · rw [if_neg h0, if_neg h1, if_neg h2, if_neg h3, if_neg h4, if_neg h5, if_pos h6] at q; exact absurd q (by decide)
    by_cases h7 : v = 7501157
    · rw [if_neg h0, if_neg h1, if_neg h2, if_neg h3, if_neg h4, if_neg h5, if_neg h6, if_pos h7] at q; exact absurd q (by decide)
    by_cases h8 : v = 1718773093
    · rw [if_neg h0, if_neg h1, if_neg h2, if_neg h3, if_neg h4, if_neg h5, if_neg h6, if_neg h7, if_pos h8] at q; exact absurd q (by decide)
    by_cases h9 : v = 108187867505765
    · rw [if_neg h0, if_neg h1, if_neg h2, if_neg h3, if_neg h4, if_neg h5, if_neg h6, if_neg h7, if_neg h8, if_pos h9] at q; exact absurd q (by decide)
    by_cases h10 : v = 1835626085
    · rw [if_neg h0, if_neg h1, if_neg h2, if_neg h3, if_neg h4, if_neg h5, if_neg h6, if_neg h7, if_neg h8, if_neg h9, if_pos h10] at q; exact absurd q (by decide)
    by_cases h11 : v = 1953854062
    · rw [if_neg h0, if_neg h1, if_neg h2, if_neg h3, if_neg h4, if_neg h5, if_neg h6, if_neg h7, if_neg h8, if_neg h9, if_neg h10, if_pos h11] at q; exact absurd q (by decide)
    by_cases h12 : v = 1667328869
    · rw [if_neg h0, if_neg h1, if_neg h2, if_neg h3, if_neg h4, if_neg h5, if_neg h6, if_neg h7, if_neg h8, if_neg h9, if_neg h10, if_neg h11, if_pos h12] at q; exact absurd q (by decide)
    by_cases h13 : v = 1952541541
    · rw [if_neg h0, if_neg h1, if_neg h2, if_neg h3, if_neg h4, if_neg h5, if_neg h6, if_neg h7, if_neg h8, if_neg h9, if_neg h10, if_neg h11, if_neg h12, if_pos h13] at q; exact absurd q (by decide)
    by_cases h14 : v = 26982
    · exact h14
    by_cases h15 : v = 7237492
    · rw [if_neg h0, if_neg h1, if_neg h2, if_neg h3, if_neg h4, if_neg h5, if_neg h6, if_neg h7, if_neg h8, if_neg h9, if_neg h10, if_neg h11, if_neg h12, if_neg h13, if_neg h14, if_pos h15] at q; exact absurd q (by decide)
    by_cases h16 : v = 6385252
    · rw [if_neg h0, if_neg h1, if_neg h2, if_neg h3, if_neg h4, if_neg h5, if_neg h6, if_neg h7, if_neg h8, if_neg h9, if_neg h10, if_neg h11, if_neg h12, if_neg h13, if_neg h14, if_neg h15, if_pos h16] at q; exact absurd q (by decide)
    by_cases h17 : v = 28530
    · rw [if_neg h0, if_neg h1, if_neg h2, if_neg h3, if_neg h4, if_neg h5, if_neg h6, if_neg h7, if_neg h8, if_neg h9, if_neg h10, if_neg h11, if_neg h12, if_neg h13, if_neg h14, if_neg h15, if_neg h16, if_pos h17] at q; exact absurd q (by decide)
    rw [if_neg h0, if_neg h1, if_neg h2, if_neg h3, if_neg h4, if_neg h5, if_neg h6, if_neg h7, if_neg h8, if_neg h9, if_neg h10, if_neg h11, if_neg h12, if_neg h13, if_neg h14, if_neg h15, if_neg h16, if_neg h17] at q
    exact absurd q (by decide)
  · intro q; rw [q]; decide
theorem twd_14 (b : Int → Int) (n q : Int) : (twd b n q (26982 : Int64) = true) = (tw b n q = 14) := by
  have ha := le_all (b := b) (n := n) (p := q)
  unfold twd tw
  rw [decide_eq_true_eq]
  by_cases h : 0 < le_ b n q - q ∧ le_ b n q - q < 8
  · rw [if_pos h]
    have hl : ∀ j : Int, q ≤ j → j < q + (((le_ b n q - q).toNat : Nat) : Int) → 97 ≤ b j ∧ b j ≤ 122 := fun j j0 j1 => (of_decide_eq_true (ha.2.1 j j0 (by omega))).2
    have hr := wki_rg _ hl
    have hp := p256 (le_ b n q - q).toNat (by omega)
    rw [wk_i _ (by omega) hl]
    have e : (Int64.ofInt (wki b q (le_ b n q - q).toNat) = (26982 : Int64)) ↔ wki b q (le_ b n q - q).toNat = 26982 := by
      constructor
      · intro q1
        have := congrArg Int64.toInt q1
        rw [Int64.toInt_ofInt_of_le (by omega) (by omega)] at this
        exact this
      · intro q1; rw [q1]; rfl
    rw [e]
    apply propext
    exact ⟨fun r => (tws_14 _).mpr r.2.2, fun r => ⟨h.1, h.2, (tws_14 _).mp r⟩⟩
  · rw [if_neg h]
    apply propext
    exact ⟨fun r => absurd ⟨r.1, r.2.1⟩ h, fun r => absurd r (by decide)⟩
theorem tws_15 (v : Int) : tws v = 15 ↔ v = 7237492 := by
  constructor
  · intro q
    unfold tws at q
    by_cases h0 : v = 444351214452
    · rw [if_pos h0] at q; exact absurd q (by decide)
    by_cases h1 : v = 495740085093
    · rw [if_neg h0, if_pos h1] at q; exact absurd q (by decide)
    by_cases h2 : v = 1802071652
    · rw [if_neg h0, if_neg h1, if_pos h2] at q; exact absurd q (by decide)
    by_cases h3 : v = 1936292453
    · rw [if_neg h0, if_neg h1, if_neg h2, if_pos h3] at q; exact absurd q (by decide)
    by_cases h4 : v = 465625113971
    · rw [if_neg h0, if_neg h1, if_neg h2, if_neg h3, if_pos h4] at q; exact absurd q (by decide)
    by_cases h5 : v = 512970880104
    · rw [if_neg h0, if_neg h1, if_neg h2, if_neg h3, if_neg h4, if_pos h5] at q; exact absurd q (by decide)
    by_cases h6 : v = 6840691
    · rw [if_neg h0, if_neg h1, if_neg h2, if_neg h3, if_neg h4, if_neg h5, if_pos h6] at q; exact absurd q (by decide)
    by_cases h7 : v = 7501157
    · rw [if_neg h0, if_neg h1, if_neg h2, if_neg h3, if_neg h4, if_neg h5, if_neg h6, if_pos h7] at q; exact absurd q (by decide)
    by_cases h8 : v = 1718773093
    · rw [if_neg h0, if_neg h1, if_neg h2, if_neg h3, if_neg h4, if_neg h5, if_neg h6, if_neg h7, if_pos h8] at q; exact absurd q (by decide)
    by_cases h9 : v = 108187867505765
    · rw [if_neg h0, if_neg h1, if_neg h2, if_neg h3, if_neg h4, if_neg h5, if_neg h6, if_neg h7, if_neg h8, if_pos h9] at q; exact absurd q (by decide)
    by_cases h10 : v = 1835626085
    · rw [if_neg h0, if_neg h1, if_neg h2, if_neg h3, if_neg h4, if_neg h5, if_neg h6, if_neg h7, if_neg h8, if_neg h9, if_pos h10] at q; exact absurd q (by decide)
    by_cases h11 : v = 1953854062
    · rw [if_neg h0, if_neg h1, if_neg h2, if_neg h3, if_neg h4, if_neg h5, if_neg h6, if_neg h7, if_neg h8, if_neg h9, if_neg h10, if_pos h11] at q; exact absurd q (by decide)
    by_cases h12 : v = 1667328869
    · rw [if_neg h0, if_neg h1, if_neg h2, if_neg h3, if_neg h4, if_neg h5, if_neg h6, if_neg h7, if_neg h8, if_neg h9, if_neg h10, if_neg h11, if_pos h12] at q; exact absurd q (by decide)
    by_cases h13 : v = 1952541541
    · rw [if_neg h0, if_neg h1, if_neg h2, if_neg h3, if_neg h4, if_neg h5, if_neg h6, if_neg h7, if_neg h8, if_neg h9, if_neg h10, if_neg h11, if_neg h12, if_pos h13] at q; exact absurd q (by decide)
    by_cases h14 : v = 26982
    · rw [if_neg h0, if_neg h1, if_neg h2, if_neg h3, if_neg h4, if_neg h5, if_neg h6, if_neg h7, if_neg h8, if_neg h9, if_neg h10, if_neg h11, if_neg h12, if_neg h13, if_pos h14] at q; exact absurd q (by decide)
    by_cases h15 : v = 7237492
    · exact h15
    by_cases h16 : v = 6385252
    · rw [if_neg h0, if_neg h1, if_neg h2, if_neg h3, if_neg h4, if_neg h5, if_neg h6, if_neg h7, if_neg h8, if_neg h9, if_neg h10, if_neg h11, if_neg h12, if_neg h13, if_neg h14, if_neg h15, if_pos h16] at q; exact absurd q (by decide)
    by_cases h17 : v = 28530
    · rw [if_neg h0, if_neg h1, if_neg h2, if_neg h3, if_neg h4, if_neg h5, if_neg h6, if_neg h7, if_neg h8, if_neg h9, if_neg h10, if_neg h11, if_neg h12, if_neg h13, if_neg h14, if_neg h15, if_neg h16, if_pos h17] at q; exact absurd q (by decide)
    rw [if_neg h0, if_neg h1, if_neg h2, if_neg h3, if_neg h4, if_neg h5, if_neg h6, if_neg h7, if_neg h8, if_neg h9, if_neg h10, if_neg h11, if_neg h12, if_neg h13, if_neg h14, if_neg h15, if_neg h16, if_neg h17] at q
    exact absurd q (by decide)
  · intro q; rw [q]; decide
theorem twd_15 (b : Int → Int) (n q : Int) : (twd b n q (7237492 : Int64) = true) = (tw b n q = 15) := by
  have ha := le_all (b := b) (n := n) (p := q)
  unfold twd tw
  rw [decide_eq_true_eq]
  by_cases h : 0 < le_ b n q - q ∧ le_ b n q - q < 8
  · rw [if_pos h]
    have hl : ∀ j : Int, q ≤ j → j < q + (((le_ b n q - q).toNat : Nat) : Int) → 97 ≤ b j ∧ b j ≤ 122 := fun j j0 j1 => (of_decide_eq_true (ha.2.1 j j0 (by omega))).2
    have hr := wki_rg _ hl
    have hp := p256 (le_ b n q - q).toNat (by omega)
    rw [wk_i _ (by omega) hl]
    have e : (Int64.ofInt (wki b q (le_ b n q - q).toNat) = (7237492 : Int64)) ↔ wki b q (le_ b n q - q).toNat = 7237492 := by
      constructor
      · intro q1
        have := congrArg Int64.toInt q1
        rw [Int64.toInt_ofInt_of_le (by omega) (by omega)] at this
        exact this
      · intro q1; rw [q1]; rfl
    rw [e]
    apply propext
    exact ⟨fun r => (tws_15 _).mpr r.2.2, fun r => ⟨h.1, h.2, (tws_15 _).mp r⟩⟩
  · rw [if_neg h]
    apply propext
    exact ⟨fun r => absurd ⟨r.1, r.2.1⟩ h, fun r => absurd r (by decide)⟩
theorem tws_16 (v : Int) : tws v = 16 ↔ v = 6385252 := by
  constructor
  · intro q
    unfold tws at q
    by_cases h0 : v = 444351214452
    · rw [if_pos h0] at q; exact absurd q (by decide)
    by_cases h1 : v = 495740085093
    · rw [if_neg h0, if_pos h1] at q; exact absurd q (by decide)
    by_cases h2 : v = 1802071652
    · rw [if_neg h0, if_neg h1, if_pos h2] at q; exact absurd q (by decide)
    by_cases h3 : v = 1936292453
    · rw [if_neg h0, if_neg h1, if_neg h2, if_pos h3] at q; exact absurd q (by decide)
    by_cases h4 : v = 465625113971
    · rw [if_neg h0, if_neg h1, if_neg h2, if_neg h3, if_pos h4] at q; exact absurd q (by decide)
    by_cases h5 : v = 512970880104
    · rw [if_neg h0, if_neg h1, if_neg h2, if_neg h3, if_neg h4, if_pos h5] at q; exact absurd q (by decide)
    by_cases h6 : v = 6840691
    · rw [if_neg h0, if_neg h1, if_neg h2, if_neg h3, if_neg h4, if_neg h5, if_pos h6] at q; exact absurd q (by decide)
    by_cases h7 : v = 7501157
    · rw [if_neg h0, if_neg h1, if_neg h2, if_neg h3, if_neg h4, if_neg h5, if_neg h6, if_pos h7] at q; exact absurd q (by decide)
    by_cases h8 : v = 1718773093
    · rw [if_neg h0, if_neg h1, if_neg h2, if_neg h3, if_neg h4, if_neg h5, if_neg h6, if_neg h7, if_pos h8] at q; exact absurd q (by decide)
    by_cases h9 : v = 108187867505765
    · rw [if_neg h0, if_neg h1, if_neg h2, if_neg h3, if_neg h4, if_neg h5, if_neg h6, if_neg h7, if_neg h8, if_pos h9] at q; exact absurd q (by decide)
    by_cases h10 : v = 1835626085
    · rw [if_neg h0, if_neg h1, if_neg h2, if_neg h3, if_neg h4, if_neg h5, if_neg h6, if_neg h7, if_neg h8, if_neg h9, if_pos h10] at q; exact absurd q (by decide)
    by_cases h11 : v = 1953854062
    · rw [if_neg h0, if_neg h1, if_neg h2, if_neg h3, if_neg h4, if_neg h5, if_neg h6, if_neg h7, if_neg h8, if_neg h9, if_neg h10, if_pos h11] at q; exact absurd q (by decide)
    by_cases h12 : v = 1667328869
    · rw [if_neg h0, if_neg h1, if_neg h2, if_neg h3, if_neg h4, if_neg h5, if_neg h6, if_neg h7, if_neg h8, if_neg h9, if_neg h10, if_neg h11, if_pos h12] at q; exact absurd q (by decide)
    by_cases h13 : v = 1952541541
    · rw [if_neg h0, if_neg h1, if_neg h2, if_neg h3, if_neg h4, if_neg h5, if_neg h6, if_neg h7, if_neg h8, if_neg h9, if_neg h10, if_neg h11, if_neg h12, if_pos h13] at q; exact absurd q (by decide)
    by_cases h14 : v = 26982
    · rw [if_neg h0, if_neg h1, if_neg h2, if_neg h3, if_neg h4, if_neg h5, if_neg h6, if_neg h7, if_neg h8, if_neg h9, if_neg h10, if_neg h11, if_neg h12, if_neg h13, if_pos h14] at q; exact absurd q (by decide)
    by_cases h15 : v = 7237492
    · rw [if_neg h0, if_neg h1, if_neg h2, if_neg h3, if_neg h4, if_neg h5, if_neg h6, if_neg h7, if_neg h8, if_neg h9, if_neg h10, if_neg h11, if_neg h12, if_neg h13, if_neg h14, if_pos h15] at q; exact absurd q (by decide)
    by_cases h16 : v = 6385252
    · exact h16
    by_cases h17 : v = 28530
    · rw [if_neg h0, if_neg h1, if_neg h2, if_neg h3, if_neg h4, if_neg h5, if_neg h6, if_neg h7, if_neg h8, if_neg h9, if_neg h10, if_neg h11, if_neg h12, if_neg h13, if_neg h14, if_neg h15, if_neg h16, if_pos h17] at q; exact absurd q (by decide)
    rw [if_neg h0, if_neg h1, if_neg h2, if_neg h3, if_neg h4, if_neg h5, if_neg h6, if_neg h7, if_neg h8, if_neg h9, if_neg h10, if_neg h11, if_neg h12, if_neg h13, if_neg h14, if_neg h15, if_neg h16, if_neg h17] at q
    exact absurd q (by decide)
  · intro q; rw [q]; decide
theorem twd_16 (b : Int → Int) (n q : Int) : (twd b n q (6385252 : Int64) = true) = (tw b n q = 16) := by
  have ha := le_all (b := b) (n := n) (p := q)
  unfold twd tw
  rw [decide_eq_true_eq]
  by_cases h : 0 < le_ b n q - q ∧ le_ b n q - q < 8
  · rw [if_pos h]
    have hl : ∀ j : Int, q ≤ j → j < q + (((le_ b n q - q).toNat : Nat) : Int) → 97 ≤ b j ∧ b j ≤ 122 := fun j j0 j1 => (of_decide_eq_true (ha.2.1 j j0 (by omega))).2
    have hr := wki_rg _ hl
    have hp := p256 (le_ b n q - q).toNat (by omega)
    rw [wk_i _ (by omega) hl]
    have e : (Int64.ofInt (wki b q (le_ b n q - q).toNat) = (6385252 : Int64)) ↔ wki b q (le_ b n q - q).toNat = 6385252 := by
      constructor
      · intro q1
        have := congrArg Int64.toInt q1
        rw [Int64.toInt_ofInt_of_le (by omega) (by omega)] at this
        exact this
      · intro q1; rw [q1]; rfl
    rw [e]
    apply propext
    exact ⟨fun r => (tws_16 _).mpr r.2.2, fun r => ⟨h.1, h.2, (tws_16 _).mp r⟩⟩
  · rw [if_neg h]
    apply propext
    exact ⟨fun r => absurd ⟨r.1, r.2.1⟩ h, fun r => absurd r (by decide)⟩
theorem tws_17 (v : Int) : tws v = 17 ↔ v = 28530 := by
  constructor
  · intro q
    unfold tws at q
    by_cases h0 : v = 444351214452
    · rw [if_pos h0] at q; exact absurd q (by decide)
    by_cases h1 : v = 495740085093
    · rw [if_neg h0, if_pos h1] at q; exact absurd q (by decide)
    by_cases h2 : v = 1802071652
    · rw [if_neg h0, if_neg h1, if_pos h2] at q; exact absurd q (by decide)
    by_cases h3 : v = 1936292453
    · rw [if_neg h0, if_neg h1, if_neg h2, if_pos h3] at q; exact absurd q (by decide)
    by_cases h4 : v = 465625113971
    · rw [if_neg h0, if_neg h1, if_neg h2, if_neg h3, if_pos h4] at q; exact absurd q (by decide)
    by_cases h5 : v = 512970880104
    · rw [if_neg h0, if_neg h1, if_neg h2, if_neg h3, if_neg h4, if_pos h5] at q; exact absurd q (by decide)
    by_cases h6 : v = 6840691
    · rw [if_neg h0, if_neg h1, if_neg h2, if_neg h3, if_neg h4, if_neg h5, if_pos h6] at q; exact absurd q (by decide)
    by_cases h7 : v = 7501157
    · rw [if_neg h0, if_neg h1, if_neg h2, if_neg h3, if_neg h4, if_neg h5, if_neg h6, if_pos h7] at q; exact absurd q (by decide)
    by_cases h8 : v = 1718773093
    · rw [if_neg h0, if_neg h1, if_neg h2, if_neg h3, if_neg h4, if_neg h5, if_neg h6, if_neg h7, if_pos h8] at q; exact absurd q (by decide)
    by_cases h9 : v = 108187867505765
    · rw [if_neg h0, if_neg h1, if_neg h2, if_neg h3, if_neg h4, if_neg h5, if_neg h6, if_neg h7, if_neg h8, if_pos h9] at q; exact absurd q (by decide)
    by_cases h10 : v = 1835626085
    · rw [if_neg h0, if_neg h1, if_neg h2, if_neg h3, if_neg h4, if_neg h5, if_neg h6, if_neg h7, if_neg h8, if_neg h9, if_pos h10] at q; exact absurd q (by decide)
    by_cases h11 : v = 1953854062
    · rw [if_neg h0, if_neg h1, if_neg h2, if_neg h3, if_neg h4, if_neg h5, if_neg h6, if_neg h7, if_neg h8, if_neg h9, if_neg h10, if_pos h11] at q; exact absurd q (by decide)
    by_cases h12 : v = 1667328869
    · rw [if_neg h0, if_neg h1, if_neg h2, if_neg h3, if_neg h4, if_neg h5, if_neg h6, if_neg h7, if_neg h8, if_neg h9, if_neg h10, if_neg h11, if_pos h12] at q; exact absurd q (by decide)
    by_cases h13 : v = 1952541541
    · rw [if_neg h0, if_neg h1, if_neg h2, if_neg h3, if_neg h4, if_neg h5, if_neg h6, if_neg h7, if_neg h8, if_neg h9, if_neg h10, if_neg h11, if_neg h12, if_pos h13] at q; exact absurd q (by decide)
    by_cases h14 : v = 26982
    · rw [if_neg h0, if_neg h1, if_neg h2, if_neg h3, if_neg h4, if_neg h5, if_neg h6, if_neg h7, if_neg h8, if_neg h9, if_neg h10, if_neg h11, if_neg h12, if_neg h13, if_pos h14] at q; exact absurd q (by decide)
    by_cases h15 : v = 7237492
    · rw [if_neg h0, if_neg h1, if_neg h2, if_neg h3, if_neg h4, if_neg h5, if_neg h6, if_neg h7, if_neg h8, if_neg h9, if_neg h10, if_neg h11, if_neg h12, if_neg h13, if_neg h14, if_pos h15] at q; exact absurd q (by decide)
    by_cases h16 : v = 6385252
    · rw [if_neg h0, if_neg h1, if_neg h2, if_neg h3, if_neg h4, if_neg h5, if_neg h6, if_neg h7, if_neg h8, if_neg h9, if_neg h10, if_neg h11, if_neg h12, if_neg h13, if_neg h14, if_neg h15, if_pos h16] at q; exact absurd q (by decide)
    by_cases h17 : v = 28530
    · exact h17
    rw [if_neg h0, if_neg h1, if_neg h2, if_neg h3, if_neg h4, if_neg h5, if_neg h6, if_neg h7, if_neg h8, if_neg h9, if_neg h10, if_neg h11, if_neg h12, if_neg h13, if_neg h14, if_neg h15, if_neg h16, if_neg h17] at q
    exact absurd q (by decide)
  · intro q; rw [q]; decide
theorem twd_17 (b : Int → Int) (n q : Int) : (twd b n q (28530 : Int64) = true) = (tw b n q = 17) := by
  have ha := le_all (b := b) (n := n) (p := q)
  unfold twd tw
  rw [decide_eq_true_eq]
  by_cases h : 0 < le_ b n q - q ∧ le_ b n q - q < 8
  · rw [if_pos h]
    have hl : ∀ j : Int, q ≤ j → j < q + (((le_ b n q - q).toNat : Nat) : Int) → 97 ≤ b j ∧ b j ≤ 122 := fun j j0 j1 => (of_decide_eq_true (ha.2.1 j j0 (by omega))).2
    have hr := wki_rg _ hl
    have hp := p256 (le_ b n q - q).toNat (by omega)
    rw [wk_i _ (by omega) hl]
    have e : (Int64.ofInt (wki b q (le_ b n q - q).toNat) = (28530 : Int64)) ↔ wki b q (le_ b n q - q).toNat = 28530 := by
      constructor
      · intro q1
        have := congrArg Int64.toInt q1
        rw [Int64.toInt_ofInt_of_le (by omega) (by omega)] at this
        exact this
      · intro q1; rw [q1]; rfl
    rw [e]
    apply propext
    exact ⟨fun r => (tws_17 _).mpr r.2.2, fun r => ⟨h.1, h.2, (tws_17 _).mp r⟩⟩
  · rw [if_neg h]
    apply propext
    exact ⟨fun r => absurd ⟨r.1, r.2.1⟩ h, fun r => absurd r (by decide)⟩
theorem tws_rg (v : Int) : -1 ≤ tws v ∧ tws v ≤ 17 := by
  unfold tws
  by_cases h0 : v = 444351214452
  · rw [if_pos h0]; decide
  by_cases h1 : v = 495740085093
  · rw [if_neg h0, if_pos h1]; decide
  by_cases h2 : v = 1802071652
  · rw [if_neg h0, if_neg h1, if_pos h2]; decide
  by_cases h3 : v = 1936292453
  · rw [if_neg h0, if_neg h1, if_neg h2, if_pos h3]; decide
  by_cases h4 : v = 465625113971
  · rw [if_neg h0, if_neg h1, if_neg h2, if_neg h3, if_pos h4]; decide
  by_cases h5 : v = 512970880104
  · rw [if_neg h0, if_neg h1, if_neg h2, if_neg h3, if_neg h4, if_pos h5]; decide
  by_cases h6 : v = 6840691
  · rw [if_neg h0, if_neg h1, if_neg h2, if_neg h3, if_neg h4, if_neg h5, if_pos h6]; decide
  by_cases h7 : v = 7501157
  · rw [if_neg h0, if_neg h1, if_neg h2, if_neg h3, if_neg h4, if_neg h5, if_neg h6, if_pos h7]; decide
  by_cases h8 : v = 1718773093
  · rw [if_neg h0, if_neg h1, if_neg h2, if_neg h3, if_neg h4, if_neg h5, if_neg h6, if_neg h7, if_pos h8]; decide
  by_cases h9 : v = 108187867505765
  · rw [if_neg h0, if_neg h1, if_neg h2, if_neg h3, if_neg h4, if_neg h5, if_neg h6, if_neg h7, if_neg h8, if_pos h9]; decide
  by_cases h10 : v = 1835626085
  · rw [if_neg h0, if_neg h1, if_neg h2, if_neg h3, if_neg h4, if_neg h5, if_neg h6, if_neg h7, if_neg h8, if_neg h9, if_pos h10]; decide
  by_cases h11 : v = 1953854062
  · rw [if_neg h0, if_neg h1, if_neg h2, if_neg h3, if_neg h4, if_neg h5, if_neg h6, if_neg h7, if_neg h8, if_neg h9, if_neg h10, if_pos h11]; decide
  by_cases h12 : v = 1667328869
  · rw [if_neg h0, if_neg h1, if_neg h2, if_neg h3, if_neg h4, if_neg h5, if_neg h6, if_neg h7, if_neg h8, if_neg h9, if_neg h10, if_neg h11, if_pos h12]; decide
  by_cases h13 : v = 1952541541
  · rw [if_neg h0, if_neg h1, if_neg h2, if_neg h3, if_neg h4, if_neg h5, if_neg h6, if_neg h7, if_neg h8, if_neg h9, if_neg h10, if_neg h11, if_neg h12, if_pos h13]; decide
  by_cases h14 : v = 26982
  · rw [if_neg h0, if_neg h1, if_neg h2, if_neg h3, if_neg h4, if_neg h5, if_neg h6, if_neg h7, if_neg h8, if_neg h9, if_neg h10, if_neg h11, if_neg h12, if_neg h13, if_pos h14]; decide
  by_cases h15 : v = 7237492
  · rw [if_neg h0, if_neg h1, if_neg h2, if_neg h3, if_neg h4, if_neg h5, if_neg h6, if_neg h7, if_neg h8, if_neg h9, if_neg h10, if_neg h11, if_neg h12, if_neg h13, if_neg h14, if_pos h15]; decide
  by_cases h16 : v = 6385252
  · rw [if_neg h0, if_neg h1, if_neg h2, if_neg h3, if_neg h4, if_neg h5, if_neg h6, if_neg h7, if_neg h8, if_neg h9, if_neg h10, if_neg h11, if_neg h12, if_neg h13, if_neg h14, if_neg h15, if_pos h16]; decide
  by_cases h17 : v = 28530
  · rw [if_neg h0, if_neg h1, if_neg h2, if_neg h3, if_neg h4, if_neg h5, if_neg h6, if_neg h7, if_neg h8, if_neg h9, if_neg h10, if_neg h11, if_neg h12, if_neg h13, if_neg h14, if_neg h15, if_neg h16, if_pos h17]; decide
  rw [if_neg h0, if_neg h1, if_neg h2, if_neg h3, if_neg h4, if_neg h5, if_neg h6, if_neg h7, if_neg h8, if_neg h9, if_neg h10, if_neg h11, if_neg h12, if_neg h13, if_neg h14, if_neg h15, if_neg h16, if_neg h17]
  decide
theorem tw_rg (b : Int → Int) (n q : Int) : -1 ≤ tw b n q ∧ tw b n q ≤ 17 := by
  unfold tw
  split
  · exact tws_rg _
  · decide
