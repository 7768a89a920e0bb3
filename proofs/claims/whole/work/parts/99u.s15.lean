/-! whatever the grammar's machine ends with can be reckoned out -/
def nbo : List Int → Nat
  | [] => 0
  | x :: r => (if x = 12 ∨ x = 13 then 1 else 0) + nbo r
def t2c (cx : Int) : Nat := if cx = 2 then 1 else 0
def WS (S : List Int) : Prop := ∀ w, ∃ v, rlx w S [] = some [v]
def WFc (c : List Int × List Int) : Prop := WS c.1 ∧ (c.2 = [] ∨ ∀ w, ∃ v, (v = 0 ∨ v = 1) ∧ rlx w c.2 [] = some [v])
def WC (k : Int) (O : List Int) (M : List (List Int × List Int)) : Prop := (0 ≤ k ∧ k ≤ 60) ∧ (∀ c ∈ M, WFc c) ∧ ∀ x ∈ O, x = 11 ∨ x = 12 ∨ x = 13 ∨ x = 91
def OPS (lo ti cx sg : Int) (O S : List Int) : Prop := (lo = -1 ∨ lo = 2 ∨ lo = 3) ∧ (ti = -1 ∨ ti = 4 ∨ ti = 5 ∨ ti = 14) ∧ ((cx = 0 ∧ O = []) ∨ (cx = 1 ∧ WS S) ∨ (cx = 2 ∧ WS S ∧ 6 ≤ sg ∧ sg ≤ 10))
def WI : SR → Prop
  | (0, lo, ti, cx, sg, p, k, O, E, S, M) => WC k O M ∧ 0 ≤ p ∧ OPS lo ti cx sg O S ∧ ∀ w, WST w E (tv ti + tv lo + t2c cx) (nbo O) k
  | (1, lo, ti, cx, sg, p, k, O, E, S, M) => WC k O M ∧ 0 ≤ p ∧ OPS lo ti cx sg O S ∧ ∀ w, WST w E (tv lo + t2c cx + 1 + tv ti) (nbo O) k
  | (2, lo, ti, cx, sg, p, k, O, E, S, M) => WC k O M ∧ 0 ≤ p ∧ OPS lo (-1) cx sg O S ∧ ∀ w, WST w E (t2c cx + 1 + tv lo) (nbo O) k
  | (3, lo, ti, cx, sg, p, k, O, E, S, M) => WC k O M ∧ 0 ≤ p ∧ OPS (-1) (-1) cx sg O S ∧ ∀ w, WST w E (t2c cx + 1) (nbo O) k
  | (4, lo, ti, cx, sg, p, k, O, E, S, M) => WC k O M ∧ 0 ≤ p ∧ WS S ∧ ∀ w, WST w E 0 (nbo O) k
  | (5, lo, ti, cx, sg, p, k, O, E, S, M) => WC k O M ∧ 0 ≤ p ∧ WS S ∧ ∀ w, WST w E 0 (nbo O + 1) k
  | (7, lo, ti, cx, sg, p, k, O, E, S, M) => WC k O M ∧ 0 ≤ p ∧ WS S ∧ ∀ w, WST w E 0 (nbo O + 1) k
  | (6, lo, ti, cx, sg, p, k, O, E, S, M) => WC k [] M ∧ 0 ≤ p
  | (8, lo, ti, cx, sg, p, k, O, E, S, M) => WC k [] M ∧ 0 ≤ p
  | (mo, lo, ti, cx, sg, p, k, O, E, S, M) => ∀ c ∈ M, WFc c
section
variable {b : Int → Int} {n lo ti cx sg p k W : Int} {O E S : List Int} {M : List (List Int × List Int)}
theorem sk_nn (h : 0 ≤ p) : p ≤ sk b n p := by
  by_cases c : p ≤ n
  · exact (sk_in c).1
  · rw [sk_neg (by omega)]; exact Int.le_refl _
theorem le_nn : p ≤ le_ b n p := (le_all (b := b) (n := n) (p := p)).1.1
theorem WIX : WI (sX W) := fun c hc => nomatch hc
theorem WC.o {O2 : List Int} {k2 : Int} (h : WC k O M) (hk : 0 ≤ k2 ∧ k2 ≤ 60) (ho : ∀ x ∈ O2, x = 11 ∨ x = 12 ∨ x = 13 ∨ x = 91) : WC k2 O2 M := ⟨hk, h.2.1, ho⟩
theorem WI0 (h : WI (0, lo, ti, cx, sg, p, k, O, E, S, M)) : WI (sstp b n (0, lo, ti, cx, sg, p, k, O, E, S, M)) := by
  obtain ⟨h1, h2, h3, h4⟩ := h
  have hs := sk_nn (b := b) (n := n) h2
  show WI (if _ then _ else _)
  by_cases c : vfl b n (sk b n p) k = 0
  · rw [if_pos c]
    have hk := vfl_k c (by omega)
    have hv : sk b n p ≤ vnd b n (sk b n p) := by
      unfold vnd
      by_cases d : dgt b n (sk b n p) = true
      · rw [if_pos d]; exact (de_all (b := b) (n := n) (p := sk b n p)).1.1
      · rw [if_neg d]; exact le_nn
    have hs2 := sk_nn (b := b) (n := n) (p := vnd b n (sk b n p)) (by omega)
    have hk1 := h1.1
    refine ⟨h1.o (by omega) h1.2.2, by omega, h3, fun w => ?_⟩
    have := (h4 w).push (vcd_st c (by omega) w) (by omega)
    rw [show tv lo + t2c cx + 1 + tv ti = tv ti + tv lo + t2c cx + 1 by omega]
    exact this
  · rw [if_neg c]; exact WIX
theorem WI1 (h : WI (1, lo, ti, cx, sg, p, k, O, E, S, M)) : WI (sstp b n (1, lo, ti, cx, sg, p, k, O, E, S, M)) := by
  obtain ⟨h1, h2, h3, h4⟩ := h
  have h5 : ∀ w, WST w (E ++ opl ti) (tv lo + t2c cx + 1) (nbo O) k := fun w => (h4 w).oplx (by have := h3.2.1; omega)
  show WI (if _ then _ else _)
  by_cases c : opcl (opc (tc b n p)) = true
  · rw [if_pos c]
    have hc := opcl_i.mp c
    have ho : opc (tc b n p) = 4 ∨ opc (tc b n p) = 5 ∨ opc (tc b n p) = 14 := by
      rcases hc with r | r | r <;> (rw [r]; decide)
    refine ⟨h1, by show 0 ≤ p + 1; omega, ⟨h3.1, by omega, h3.2.2⟩, fun w => ?_⟩
    rw [show tv (opc (tc b n p)) + tv lo + t2c cx = tv lo + t2c cx + 1 by rw [show tv (opc (tc b n p)) = 1 from if_neg (by omega)]; omega]
    exact h5 w
  · rw [if_neg c]
    exact ⟨h1, h2, ⟨h3.1, Or.inl rfl, h3.2.2⟩, fun w => by rw [show t2c cx + 1 + tv lo = tv lo + t2c cx + 1 by omega]; exact h5 w⟩
theorem WI2 (h : WI (2, lo, ti, cx, sg, p, k, O, E, S, M)) : WI (sstp b n (2, lo, ti, cx, sg, p, k, O, E, S, M)) := by
  obtain ⟨h1, h2, h3, h4⟩ := h
  have h5 : ∀ w, WST w (E ++ opl lo) (t2c cx + 1) (nbo O) k := fun w => (h4 w).oplx (by have := h3.1; omega)
  show WI (if _ then _ else _)
  by_cases c : opc (tc b n p) = 2 ∨ opc (tc b n p) = 3
  · rw [if_pos c]
    refine ⟨h1, by show 0 ≤ p + 1; omega, ⟨by omega, Or.inl rfl, h3.2.2⟩, fun w => ?_⟩
    rw [show tv (-1) + tv (opc (tc b n p)) + t2c cx = t2c cx + 1 by rw [show tv (opc (tc b n p)) = 1 from if_neg (by omega), show tv (-1) = 0 from rfl]; omega]
    exact h5 w
  · rw [if_neg c]
    exact ⟨h1, h2, ⟨Or.inl rfl, Or.inl rfl, h3.2.2⟩, h5⟩
theorem cms_rg : 6 ≤ cms b n p ∧ cms b n p ≤ 10 := by
  unfold cms
  (repeat' split) <;> omega
theorem cme_nn : p ≤ cme b n p := by
  unfold cme
  split <;> omega
theorem WI3 (h : WI (3, lo, ti, cx, sg, p, k, O, E, S, M)) : WI (sstp b n (3, lo, ti, cx, sg, p, k, O, E, S, M)) := by
  obtain ⟨h1, h2, h3, h4⟩ := h
  have hk1 := h1.1
  have one : (∀ w, WST w E 1 0 k) → WS E := fun h w => by
    obtain ⟨vs, bs, a1, a2, a3, a4, a5⟩ := h w
    match vs, a2, bs, a3, a1 with
    | [v], _, [], _, a1 => exact ⟨v, a1⟩
  rcases h3.2.2 with ⟨c0, o0⟩ | ⟨c1, hS⟩ | ⟨c2, hS, hsg⟩
  · subst c0; subst o0
    have hE := one h4
    show WI (if tw b n p = 14 then _ else _)
    by_cases c : tw b n p = 14
    · rw [if_pos c]
      have := le_nn (b := b) (n := n) (p := p)
      exact ⟨h1, by omega, hE, fun w => ⟨[], [], rfl, rfl, rfl, fun v hv => (nomatch hv), by show ((0 : Nat) : Int) ≤ k; omega⟩⟩
    · rw [if_neg c]
      exact ⟨⟨hk1, fun c hc => by
        rcases List.mem_append.mp hc with hc | hc
        · exact h1.2.1 c hc
        · rcases List.mem_cons.mp hc with rfl | hc
          · exact ⟨hE, Or.inl rfl⟩
          · exact nomatch hc, fun x hx => (nomatch hx)⟩, h2⟩
  · subst c1
    show WI (if ¬ (tc b n p = 60 ∨ tc b n p = 61 ∨ tc b n p = 62) then _ else if k = 60 then _ else _)
    by_cases c : (tc b n p = 60 ∨ tc b n p = 61 ∨ tc b n p = 62)
    · rw [if_neg (fun r => r c)]
      by_cases ck : k = 60
      · rw [if_pos ck]; exact WIX
      · rw [if_neg ck]
        have := cme_nn (b := b) (n := n) (p := p)
        exact ⟨h1.o (by omega) h1.2.2, by omega, ⟨Or.inl rfl, Or.inl rfl, Or.inr (Or.inr ⟨rfl, hS, cms_rg⟩)⟩, fun w => (h4 w).mono (by omega)⟩
    · rw [if_pos c]; exact WIX
  · subst c2
    show WI (5, -1, -1, 0, 0, p, k, O, E ++ [sg], S, M)
    exact ⟨h1, h2, hS, fun w => (h4 w).cmp hsg⟩
theorem WI4 (h : WI (4, lo, ti, cx, sg, p, k, O, E, S, M)) : WI (sstp b n (4, lo, ti, cx, sg, p, k, O, E, S, M)) := by
  obtain ⟨h1, h2, h3, h4⟩ := h
  have hs := sk_nn (b := b) (n := n) h2
  have hl := le_nn (b := b) (n := n) (p := sk b n p)
  show WI (if _ then (if _ then _ else _) else if _ then (if _ then _ else _) else _)
  by_cases c : tw b n (sk b n p) = 15
  · rw [if_pos c]
    by_cases d : dpo O = 10
    · rw [if_pos d]; exact WIX
    · rw [if_neg d]
      refine ⟨h1.o h1.1 (fun x hx => ?_), by omega, h3, h4⟩
      rcases List.mem_cons.mp hx with rfl | hx
      · exact Or.inl rfl
      · exact h1.2.2 x hx
  · rw [if_neg c]
    by_cases c2 : tc b n (sk b n p) = 91
    · rw [if_pos c2]
      by_cases d : dpo O = 10
      · rw [if_pos d]; exact WIX
      · rw [if_neg d]
        refine ⟨h1.o h1.1 (fun x hx => ?_), by omega, h3, h4⟩
        rcases List.mem_cons.mp hx with rfl | hx
        · exact Or.inr (Or.inr (Or.inr rfl))
        · exact h1.2.2 x hx
    · rw [if_neg c2]
      exact ⟨h1, h2, ⟨Or.inl rfl, Or.inl rfl, Or.inr (Or.inl ⟨rfl, h3⟩)⟩, h4⟩
theorem WI5 (h : WI (5, lo, ti, cx, sg, p, k, O, E, S, M)) : WI (sstp b n (5, lo, ti, cx, sg, p, k, O, E, S, M)) := by
  obtain ⟨h1, h2, h3, h4⟩ := h
  have hs := sk_nn (b := b) (n := n) h2
  have hl := le_nn (b := b) (n := n) (p := sk b n p)
  have push : ∀ y : Int, (y = 12 ∨ y = 13) → ∀ E2 : List Int, (∀ w, WST w E2 0 (nbo O + 1) k) → WI (4, -1, -1, 0, 0, le_ b n (sk b n p), k, y :: O, E2, S, M) := fun y hy E2 hE => by
    refine ⟨h1.o h1.1 (fun x hx => ?_), by omega, h3, fun w => ?_⟩
    · rcases List.mem_cons.mp hx with rfl | hx
      · rcases hy with rfl | rfl
        · exact Or.inr (Or.inl rfl)
        · exact Or.inr (Or.inr (Or.inl rfl))
      · exact h1.2.2 x hx
    · show WST w E2 0 ((if y = 12 ∨ y = 13 then 1 else 0) + nbo O) k
      rw [if_pos hy, Nat.add_comm]
      exact hE w
  cases O with
  | nil =>
    show WI (if (0 : Int) = 11 ∨ (0 : Int) = 12 then _ else if _ then _ else if _ then (if (0 : Int) = 13 then _ else _) else if (0 : Int) = 13 then _ else _)
    rw [if_neg (by omega)]
    by_cases c6 : tw b n (sk b n p) = 16
    · rw [if_pos c6]; exact push 12 (Or.inl rfl) E h4
    · rw [if_neg c6]
      by_cases c7 : tw b n (sk b n p) = 17
      · rw [if_pos c7, if_neg (by omega)]; exact push 13 (Or.inr rfl) E h4
      · rw [if_neg c7, if_neg (by omega)]; exact ⟨h1, by omega, h3, h4⟩
  | cons y r =>
    have hr : ∀ x ∈ r, x = 11 ∨ x = 12 ∨ x = 13 ∨ x = 91 := fun x hx => h1.2.2 x (List.mem_cons_of_mem _ hx)
    have hn : nbo (y :: r) = (if y = 12 ∨ y = 13 then 1 else 0) + nbo r := rfl
    show WI (if y = 11 ∨ y = 12 then _ else if _ then _ else if _ then (if y = 13 then _ else _) else if y = 13 then _ else _)
    by_cases c : y = 11 ∨ y = 12
    · rw [if_pos c]
      refine ⟨h1.o h1.1 hr, h2, h3, fun w => ?_⟩
      show WST w (E ++ [y]) 0 (nbo r + 1) k
      have h5 := h4 w
      rw [hn] at h5
      rcases c with rfl | rfl
      · rw [if_neg (by omega), Nat.zero_add] at h5; exact h5.nt
      · rw [if_pos (Or.inl rfl), show 1 + nbo r + 1 = nbo r + 2 by omega] at h5; exact h5.bin (Or.inl rfl)
    · rw [if_neg c]
      by_cases c6 : tw b n (sk b n p) = 16
      · rw [if_pos c6]; exact push 12 (Or.inl rfl) E h4
      · rw [if_neg c6]
        by_cases c7 : tw b n (sk b n p) = 17
        · rw [if_pos c7]
          by_cases c13 : y = 13
          · rw [if_pos c13]
            refine ⟨h1, by omega, h3, fun w => ?_⟩
            show WST w (E ++ [13]) 0 (nbo (y :: r)) k
            have h5 := h4 w
            rw [hn, if_pos (Or.inr c13), show 1 + nbo r + 1 = nbo r + 2 by omega] at h5
            rw [hn, if_pos (Or.inr c13), Nat.add_comm]
            exact h5.bin (Or.inr rfl)
          · rw [if_neg c13]; exact push 13 (Or.inr rfl) E h4
        · rw [if_neg c7]
          by_cases c13 : y = 13
          · rw [if_pos c13]
            refine ⟨h1.o h1.1 hr, by omega, h3, fun w => ?_⟩
            show WST w (E ++ [13]) 0 (nbo r + 1) k
            have h5 := h4 w
            rw [hn, if_pos (Or.inr c13), show 1 + nbo r + 1 = nbo r + 2 by omega] at h5
            exact h5.bin (Or.inr rfl)
          · rw [if_neg c13]; exact ⟨h1, by omega, h3, h4⟩
theorem WI7 (hO : O = [] ∨ ∃ t, O = 91 :: t) (h : WI (7, lo, ti, cx, sg, p, k, O, E, S, M)) : WI (sstp b n (7, lo, ti, cx, sg, p, k, O, E, S, M)) := by
  obtain ⟨h1, h2, h3, h4⟩ := h
  show WI (if O = [] then _ else if _ then _ else _)
  rcases hO with rfl | ⟨t, rfl⟩
  · rw [if_pos rfl]
    refine ⟨⟨h1.1, fun c hc => ?_, fun x hx => (nomatch hx)⟩, h2⟩
    rcases List.mem_append.mp hc with hc | hc
    · exact h1.2.1 c hc
    · rcases List.mem_cons.mp hc with rfl | hc
      · refine ⟨h3, Or.inr fun w => ?_⟩
        obtain ⟨vs, bs, a1, a2, a3, a4, a5⟩ := h4 w
        match vs, a2, bs, a3, a1, a4 with
        | [], _, [v], _, a1, a4 => exact ⟨v, a4 v List.mem_cons_self, a1⟩
      · exact nomatch hc
  · rw [if_neg (fun r => by cases r)]
    by_cases c : tc b n p = 93
    · rw [if_pos c]
      exact ⟨h1.o h1.1 (fun x hx => h1.2.2 x (List.mem_cons_of_mem _ hx)), by show 0 ≤ p + 1; omega, h3, h4⟩
    · rw [if_neg c]; exact WIX
theorem WI6 (h : WI (6, lo, ti, cx, sg, p, k, O, E, S, M)) : WI (sstp b n (6, lo, ti, cx, sg, p, k, O, E, S, M)) := by
  obtain ⟨h1, h2⟩ := h
  have hs := sk_nn (b := b) (n := n) h2
  show WI (if _ then _ else if _ then _ else _)
  by_cases c : tc b n (sk b n p) = 59
  · rw [if_pos c]; exact ⟨h1, by show 0 ≤ sk b n p + 1; omega⟩
  · rw [if_neg c]
    by_cases c2 : tc b n (sk b n p) = -1
    · rw [if_pos c2]; exact h1.2.1
    · rw [if_neg c2]; exact WIX
theorem WI8 (h : WI (8, lo, ti, cx, sg, p, k, O, E, S, M)) : WI (sstp b n (8, lo, ti, cx, sg, p, k, O, E, S, M)) := by
  obtain ⟨h1, h2⟩ := h
  have hs := sk_nn (b := b) (n := n) h2
  have hl := le_nn (b := b) (n := n) (p := sk b n p)
  have hk1 := h1.1
  show WI (if _ then _ else if _ then _ else _)
  by_cases c : tw b n (sk b n p) = 13
  · rw [if_neg (fun r => r c)]
    by_cases c2 : M.length = 12
    · rw [if_pos c2]; exact WIX
    · rw [if_neg c2]
      exact ⟨h1, by omega, ⟨Or.inl rfl, Or.inl rfl, Or.inl ⟨rfl, rfl⟩⟩, fun w => ⟨[], [], rfl, rfl, rfl, fun v hv => (nomatch hv), by show ((0 : Nat) : Int) ≤ k; omega⟩⟩
  · rw [if_pos c]; exact WIX
end
