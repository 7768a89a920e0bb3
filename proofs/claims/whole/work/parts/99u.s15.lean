/-! whatever the grammar's machine ends with can be reckoned out -/
def nbo : List Int → Nat
  | [] => 0
  | x :: r => (if x = 12 ∨ x = 13 then 1 else 0) + nbo r
def t2c (cx : Int) : Nat := if cx = 2 then 1 else 0
def WS (S : List Int) : Prop := ∀ w, ∃ v, rlx w S [] = some [v]
def WFc (c : List Int × List Int) : Prop := WS c.1 ∧ (c.2 = [] ∨ ∀ w, ∃ v, (v = 0 ∨ v = 1) ∧ rlx w c.2 [] = some [v])
def WC (k : Int) (O : List Int) (M : List (List Int × List Int)) : Prop := (0 ≤ k ∧ k ≤ 60) ∧ (∀ c ∈ M, WFc c) ∧ wfs O 0
def OPS (lo ti cx sg : Int) (O S : List Int) : Prop := (lo = -1 ∨ lo = 2 ∨ lo = 3) ∧ (ti = -1 ∨ ti = 4 ∨ ti = 5 ∨ ti = 14) ∧ ((cx = 0 ∧ O = []) ∨ (cx = 1 ∧ WS S) ∨ (cx = 2 ∧ WS S ∧ 6 ≤ sg ∧ sg ≤ 10))
def WI : SR → Prop
  | (0, lo, ti, cx, sg, p, k, O, E, S, M) => WC k O M ∧ 0 ≤ p ∧ OPS lo ti cx sg O S ∧ ∀ w, WST w E (tv ti + tv lo + t2c cx) (nbo O) k
  | (1, lo, ti, cx, sg, p, k, O, E, S, M) => WC k O M ∧ 0 ≤ p ∧ OPS lo ti cx sg O S ∧ ∀ w, WST w E (tv lo + t2c cx + 1 + tv ti) (nbo O) k
  | (2, lo, ti, cx, sg, p, k, O, E, S, M) => WC k O M ∧ 0 ≤ p ∧ OPS lo (-1) cx sg O S ∧ ∀ w, WST w E (t2c cx + 1 + tv lo) (nbo O) k
  | (3, lo, ti, cx, sg, p, k, O, E, S, M) => WC k O M ∧ 0 ≤ p ∧ OPS (-1) (-1) cx sg O S ∧ ∀ w, WST w E (t2c cx + 1) (nbo O) k
  | (4, lo, ti, cx, sg, p, k, O, E, S, M) => WC k O M ∧ 0 ≤ p ∧ WS S ∧ ∀ w, WST w E 0 (nbo O) k
  | (5, lo, ti, cx, sg, p, k, O, E, S, M) => WC k O M ∧ 0 ≤ p ∧ WS S ∧ ∀ w, WST w E 0 (nbo O + 1) k
  | (7, lo, ti, cx, sg, p, k, O, E, S, M) => WC k O M ∧ 0 ≤ p ∧ WS S ∧ (O = [] ∨ ∃ t, O = 91 :: t ∧ wfs t 0) ∧ ∀ w, WST w E 0 (nbo O + 1) k
  | (6, lo, ti, cx, sg, p, k, O, E, S, M) => WC k [] M ∧ 0 ≤ p
  | (8, lo, ti, cx, sg, p, k, O, E, S, M) => WC k [] M ∧ 0 ≤ p
  | (mo, lo, ti, cx, sg, p, k, O, E, S, M) => ∀ c ∈ M, WFc c
section
variable {b : Int → Int} {n lo ti cx sg p k W : Int} {O E S : List Int} {M : List (List Int × List Int)}
theorem sk_nn (h : 0 ≤ p) : p ≤ sk b n p := by
  by_cases c : p ≤ n
  · exact (sk_in c).1
  · rw [sk_neg (by omega)]; exact Int.le_refl _
theorem le_nn : p ≤ le_ b n p := (le_all (b := b) (n := n) (p := p)).1.1
theorem WIX : WI (sX W) := fun c hc => nomatch hc
theorem WC.o {O2 : List Int} {k2 : Int} (h : WC k O M) (hk : 0 ≤ k2 ∧ k2 ≤ 60) (ho : wfs O2 0) : WC k2 O2 M := ⟨hk, h.2.1, ho⟩
theorem WI0 (h : WI (0, lo, ti, cx, sg, p, k, O, E, S, M)) : WI (sstp b n (0, lo, ti, cx, sg, p, k, O, E, S, M)) := by
  obtain ⟨h1, h2, h3, h4⟩ := h
  have hs := sk_nn (b := b) (n := n) h2
  show WI (if _ then _ else _)
  by_cases c : vfl b n (sk b n p) k = 0
  · rw [if_pos c]
    have hk := vfl_k c (by omega)
    have hv : sk b n p ≤ vnd b n (sk b n p) := by
      unfold vnd
      by_cases d : dgt b n (sk b n p) = true
      · rw [if_pos d]; exact (de_all (b := b) (n := n) (p := sk b n p)).1.1
      · rw [if_neg d]; exact le_nn
    have hs2 := sk_nn (b := b) (n := n) (p := vnd b n (sk b n p)) (by omega)
    have hk1 := h1.1
    refine ⟨h1.o (by omega) h1.2.2, by omega, h3, fun w => ?_⟩
    have := (h4 w).push (vcd_st c (by omega) w) (by omega)
    rw [show tv lo + t2c cx + 1 + tv ti = tv ti + tv lo + t2c cx + 1 by omega]
    exact this
  · rw [if_neg c]; exact WIX
theorem WI1 (h : WI (1, lo, ti, cx, sg, p, k, O, E, S, M)) : WI (sstp b n (1, lo, ti, cx, sg, p, k, O, E, S, M)) := by
  obtain ⟨h1, h2, h3, h4⟩ := h
  have h5 : ∀ w, WST w (E ++ opl ti) (tv lo + t2c cx + 1) (nbo O) k := fun w => (h4 w).oplx (by have := h3.2.1; omega)
  show WI (if _ then _ else _)
  by_cases c : opcl (opc (tc b n p)) = true
  · rw [if_pos c]
    have hc := opcl_i.mp c
    have ho : opc (tc b n p) = 4 ∨ opc (tc b n p) = 5 ∨ opc (tc b n p) = 14 := by
      rcases hc with r | r | r <;> (rw [r]; decide)
    refine ⟨h1, by show 0 ≤ p + 1; omega, ⟨h3.1, by omega, h3.2.2⟩, fun w => ?_⟩
    rw [show tv (opc (tc b n p)) + tv lo + t2c cx = tv lo + t2c cx + 1 by rw [show tv (opc (tc b n p)) = 1 from if_neg (by omega)]; omega]
    exact h5 w
  · rw [if_neg c]
    exact ⟨h1, h2, ⟨h3.1, Or.inl rfl, h3.2.2⟩, fun w => by rw [show t2c cx + 1 + tv lo = tv lo + t2c cx + 1 by omega]; exact h5 w⟩
theorem WI2 (h : WI (2, lo, ti, cx, sg, p, k, O, E, S, M)) : WI (sstp b n (2, lo, ti, cx, sg, p, k, O, E, S, M)) := by
  obtain ⟨h1, h2, h3, h4⟩ := h
  have h5 : ∀ w, WST w (E ++ opl lo) (t2c cx + 1) (nbo O) k := fun w => (h4 w).oplx (by have := h3.1; omega)
  show WI (if _ then _ else _)
  by_cases c : opc (tc b n p) = 2 ∨ opc (tc b n p) = 3
  · rw [if_pos c]
    refine ⟨h1, by show 0 ≤ p + 1; omega, ⟨by omega, Or.inl rfl, h3.2.2⟩, fun w => ?_⟩
    rw [show tv (-1) + tv (opc (tc b n p)) + t2c cx = t2c cx + 1 by rw [show tv (opc (tc b n p)) = 1 from if_neg (by omega), show tv (-1) = 0 from rfl]; omega]
    exact h5 w
  · rw [if_neg c]
    exact ⟨h1, h2, ⟨Or.inl rfl, Or.inl rfl, h3.2.2⟩, h5⟩
theorem cms_rg : 6 ≤ cms b n p ∧ cms b n p ≤ 10 := by
  unfold cms
  (repeat' split) <;> omega
theorem cme_nn : p ≤ cme b n p := by
  unfold cme
  split <;> omega
theorem WI3 (h : WI (3, lo, ti, cx, sg, p, k, O, E, S, M)) : WI (sstp b n (3, lo, ti, cx, sg, p, k, O, E, S, M)) := by
  obtain ⟨h1, h2, h3, h4⟩ := h
  have hk1 := h1.1
  have one : (∀ w, WST w E 1 0 k) → WS E := fun h w => by
    obtain ⟨vs, bs, a1, a2, a3, a4, a5⟩ := h w
    match vs, a2, bs, a3, a1 with
    | [v], _, [], _, a1 => exact ⟨v, a1⟩
  rcases h3.2.2 with ⟨c0, o0⟩ | ⟨c1, hS⟩ | ⟨c2, hS, hsg⟩
  · subst c0; subst o0
    have hE := one h4
    show WI (if tw b n p = 14 then _ else _)
    by_cases c : tw b n p = 14
    · rw [if_pos c]
      have := le_nn (b := b) (n := n) (p := p)
      exact ⟨h1, by omega, hE, fun w => ⟨[], [], rfl, rfl, rfl, fun v hv => (nomatch hv), by show ((0 : Nat) : Int) ≤ k; omega⟩⟩
    · rw [if_neg c]
      have hM : ∀ c ∈ M ++ [(E, [])], WFc c := by
        intro c hc
        rcases List.mem_append.mp hc with hc | hc
        · exact h1.2.1 c hc
        · rcases List.mem_cons.mp hc with rfl | hc
          · exact ⟨hE, Or.inl rfl⟩
          · exact nomatch hc
      exact ⟨⟨hk1, hM, trivial⟩, h2⟩
  · subst c1
    show WI (if ¬ (tc b n p = 60 ∨ tc b n p = 61 ∨ tc b n p = 62) then _ else if k = 60 then _ else _)
    by_cases c : (tc b n p = 60 ∨ tc b n p = 61 ∨ tc b n p = 62)
    · rw [if_neg (fun r => r c)]
      by_cases ck : k = 60
      · rw [if_pos ck]; exact WIX
      · rw [if_neg ck]
        have := cme_nn (b := b) (n := n) (p := p)
        exact ⟨h1.o (by omega) h1.2.2, by omega, ⟨Or.inl rfl, Or.inl rfl, Or.inr (Or.inr ⟨rfl, hS, cms_rg⟩)⟩, fun w => (h4 w).mono (by omega)⟩
    · rw [if_pos c]; exact WIX
  · subst c2
    show WI (5, -1, -1, 0, 0, p, k, O, E ++ [sg], S, M)
    exact ⟨h1, h2, hS, fun w => (h4 w).cmp hsg⟩
theorem wf1 (h : wfs O 0) (hc : ¬ (O.headD 0 = 11 ∨ O.headD 0 = 12)) : wfs O 1 := by
  rcases wfs_cl h (fun r => hc (Or.inl r)) with (rfl | ⟨t, rfl, ht⟩) | ⟨u, rfl, hu⟩ | ⟨v, rfl, hv⟩
  · trivial
  · exact ht
  · exact ⟨(by decide : 1 < 2), h.2⟩
  · exact absurd (Or.inr rfl) hc
theorem wf2 (h : wfs O 0) (hc : ¬ (O.headD 0 = 11 ∨ O.headD 0 = 12)) (hc2 : ¬ O.headD 0 = 13) : wfs O 2 := by
  rcases wfs_cl h (fun r => hc (Or.inl r)) with (rfl | ⟨t, rfl, ht⟩) | ⟨u, rfl, hu⟩ | ⟨v, rfl, hv⟩
  · trivial
  · exact ht
  · exact absurd rfl hc2
  · exact absurd (Or.inr rfl) hc
theorem nbo_c {y : Int} (h : ¬ (y = 12 ∨ y = 13)) : nbo (y :: O) = nbo O := by
  show (if y = 12 ∨ y = 13 then 1 else 0) + nbo O = _
  rw [if_neg h, Nat.zero_add]
theorem nbo_b {y : Int} (h : y = 12 ∨ y = 13) : nbo (y :: O) = nbo O + 1 := by
  show (if y = 12 ∨ y = 13 then 1 else 0) + nbo O = _
  rw [if_pos h, Nat.add_comm]
theorem WI4 (h : WI (4, lo, ti, cx, sg, p, k, O, E, S, M)) : WI (sstp b n (4, lo, ti, cx, sg, p, k, O, E, S, M)) := by
  obtain ⟨h1, h2, h3, h4⟩ := h
  have hs := sk_nn (b := b) (n := n) h2
  have hl := le_nn (b := b) (n := n) (p := sk b n p)
  show WI (if _ then (if _ then _ else _) else if _ then (if _ then _ else _) else _)
  by_cases c : tw b n (sk b n p) = 15
  · rw [if_pos c]
    by_cases d : dpo O = 10
    · rw [if_pos d]; exact WIX
    · rw [if_neg d]
      exact ⟨h1.o h1.1 ⟨rfl, rfl, h1.2.2⟩, by omega, h3, fun w => by rw [nbo_c (by omega)]; exact h4 w⟩
  · rw [if_neg c]
    by_cases c2 : tc b n (sk b n p) = 91
    · rw [if_pos c2]
      by_cases d : dpo O = 10
      · rw [if_pos d]; exact WIX
      · rw [if_neg d]
        exact ⟨h1.o h1.1 h1.2.2, by omega, h3, fun w => by rw [nbo_c (by omega)]; exact h4 w⟩
    · rw [if_neg c2]
      exact ⟨h1, h2, ⟨Or.inl rfl, Or.inl rfl, Or.inr (Or.inl ⟨rfl, h3⟩)⟩, h4⟩
theorem WI5 (h : WI (5, lo, ti, cx, sg, p, k, O, E, S, M)) : WI (sstp b n (5, lo, ti, cx, sg, p, k, O, E, S, M)) := by
  obtain ⟨h1, h2, h3, h4⟩ := h
  have hs := sk_nn (b := b) (n := n) h2
  have hl := le_nn (b := b) (n := n) (p := sk b n p)
  have hw := h1.2.2
  show WI (if O.headD 0 = 11 ∨ O.headD 0 = 12 then _ else if _ then _ else if _ then (if O.headD 0 = 13 then _ else _) else if O.headD 0 = 13 then _ else _)
  by_cases c : O.headD 0 = 11 ∨ O.headD 0 = 12
  · rw [if_pos c]
    cases O with
    | nil => have c2 : (0 : Int) = 11 ∨ (0 : Int) = 12 := c; omega
    | cons y r =>
      have c2 : y = 11 ∨ y = 12 := c
      rcases c2 with rfl | rfl
      · exact ⟨h1.o h1.1 hw.2.2, h2, h3, fun w => by have h5 := h4 w; rw [nbo_c (by omega)] at h5; exact h5.nt⟩
      · exact ⟨h1.o h1.1 (wfs_0 hw.2), h2, h3, fun w => by have h5 := h4 w; rw [nbo_b (Or.inl rfl)] at h5; exact h5.bin (Or.inl rfl)⟩
  · rw [if_neg c]
    by_cases c6 : tw b n (sk b n p) = 16
    · rw [if_pos c6]
      exact ⟨h1.o h1.1 ⟨(by decide : 0 < 1), wf1 hw c⟩, by omega, h3, fun w => by rw [nbo_b (Or.inl rfl)]; exact h4 w⟩
    · rw [if_neg c6]
      by_cases c7 : tw b n (sk b n p) = 17
      · rw [if_pos c7]
        by_cases c13 : O.headD 0 = 13
        · rw [if_pos c13]
          cases O with
          | nil => have c2 : (0 : Int) = 13 := c13; omega
          | cons y r =>
            have c2 : y = 13 := c13
            subst c2
            exact ⟨h1, by omega, h3, fun w => by have h5 := h4 w; rw [nbo_b (Or.inr rfl)] at h5 ⊢; exact h5.bin (Or.inr rfl)⟩
        · rw [if_neg c13]
          exact ⟨h1.o h1.1 ⟨(by decide : 0 < 2), wf2 hw c c13⟩, by omega, h3, fun w => by rw [nbo_b (Or.inr rfl)]; exact h4 w⟩
      · rw [if_neg c7]
        by_cases c13 : O.headD 0 = 13
        · rw [if_pos c13]
          cases O with
          | nil => have c2 : (0 : Int) = 13 := c13; omega
          | cons y r =>
            have c2 : y = 13 := c13
            subst c2
            exact ⟨h1.o h1.1 (wfs_0 hw.2), by omega, h3, wfs_2 hw.2, fun w => by have h5 := h4 w; rw [nbo_b (Or.inr rfl)] at h5; exact h5.bin (Or.inr rfl)⟩
        · rw [if_neg c13]
          exact ⟨h1, by omega, h3, wfs_2 (wf2 hw c c13), h4⟩
theorem WI7 (h : WI (7, lo, ti, cx, sg, p, k, O, E, S, M)) : WI (sstp b n (7, lo, ti, cx, sg, p, k, O, E, S, M)) := by
  obtain ⟨h1, h2, h3, hO, h4⟩ := h
  show WI (if O = [] then _ else if _ then _ else _)
  rcases hO with rfl | ⟨t, rfl, ht⟩
  · rw [if_pos rfl]
    have hM : ∀ c ∈ M ++ [(S, E)], WFc c := by
      intro c hc
      rcases List.mem_append.mp hc with hc | hc
      · exact h1.2.1 c hc
      · rcases List.mem_cons.mp hc with rfl | hc
        · refine ⟨h3, Or.inr fun w => ?_⟩
          obtain ⟨vs, bs, a1, a2, a3, a4, a5⟩ := h4 w
          match vs, a2, bs, a3, a1, a4 with
          | [], _, [v], _, a1, a4 => exact ⟨v, a4 v List.mem_cons_self, a1⟩
        · exact nomatch hc
    exact ⟨⟨h1.1, hM, trivial⟩, h2⟩
  · rw [if_neg (fun r => by cases r)]
    by_cases c : tc b n p = 93
    · rw [if_pos c]
      exact ⟨h1.o h1.1 ht, by show 0 ≤ p + 1; omega, h3, fun w => by have h5 := h4 w; rw [nbo_c (by omega)] at h5; exact h5⟩
    · rw [if_neg c]; exact WIX
theorem WI6 (h : WI (6, lo, ti, cx, sg, p, k, O, E, S, M)) : WI (sstp b n (6, lo, ti, cx, sg, p, k, O, E, S, M)) := by
  obtain ⟨h1, h2⟩ := h
  have hs := sk_nn (b := b) (n := n) h2
  show WI (if _ then _ else if _ then _ else _)
  by_cases c : tc b n (sk b n p) = 59
  · rw [if_pos c]; exact ⟨h1, by show 0 ≤ sk b n p + 1; omega⟩
  · rw [if_neg c]
    by_cases c2 : tc b n (sk b n p) = -1
    · rw [if_pos c2]; exact h1.2.1
    · rw [if_neg c2]; exact WIX
theorem WI8 (h : WI (8, lo, ti, cx, sg, p, k, O, E, S, M)) : WI (sstp b n (8, lo, ti, cx, sg, p, k, O, E, S, M)) := by
  obtain ⟨h1, h2⟩ := h
  have hs := sk_nn (b := b) (n := n) h2
  have hl := le_nn (b := b) (n := n) (p := sk b n p)
  have hk1 := h1.1
  show WI (if _ then _ else if _ then _ else _)
  by_cases c : tw b n (sk b n p) = 13
  · rw [if_neg (fun r => r c)]
    by_cases c2 : M.length = 12
    · rw [if_pos c2]; exact WIX
    · rw [if_neg c2]
      exact ⟨h1, by omega, ⟨Or.inl rfl, Or.inl rfl, Or.inl ⟨rfl, rfl⟩⟩, fun w => ⟨[], [], rfl, rfl, rfl, fun v hv => (nomatch hv), by show ((0 : Nat) : Int) ≤ k; omega⟩⟩
  · rw [if_pos c]; exact WIX
end
theorem WI_step {b : Int → Int} {n : Int} : ∀ s : SR, s.1 ≤ 9 → WI s → WI (sstp b n s) := by
  rintro ⟨mo, lo, ti, cx, sg, p, k, O, E, S, M⟩ hm h
  have hm2 : mo ≤ 9 := hm
  have : mo = 0 ∨ mo = 1 ∨ mo = 2 ∨ mo = 3 ∨ mo = 4 ∨ mo = 5 ∨ mo = 6 ∨ mo = 7 ∨ mo = 8 ∨ mo = 9 := by omega
  rcases this with rfl | rfl | rfl | rfl | rfl | rfl | rfl | rfl | rfl | rfl
  · exact WI0 h
  · exact WI1 h
  · exact WI2 h
  · exact WI3 h
  · exact WI4 h
  · exact WI5 h
  · exact WI6 h
  · exact WI7 h
  · exact WI8 h
  · exact h
theorem sstp_m {b : Int → Int} {n : Int} : ∀ s : SR, s.1 ≤ 9 → (sstp b n s).1 ≤ 9 := by
  rintro ⟨mo, lo, ti, cx, sg, p, k, O, E, S, M⟩ hm
  have hm2 : mo ≤ 9 := hm
  have : mo = 0 ∨ mo = 1 ∨ mo = 2 ∨ mo = 3 ∨ mo = 4 ∨ mo = 5 ∨ mo = 6 ∨ mo = 7 ∨ mo = 8 ∨ mo = 9 := by omega
  rcases this with rfl | rfl | rfl | rfl | rfl | rfl | rfl | rfl | rfl | rfl
  all_goals (simp only [sstp, sX, sY]; (repeat' split) <;> exact Nat.le_of_ble_eq_true rfl)
theorem WI_sit {b : Int → Int} {n : Int} : ∀ (m : Nat) (s : SR), s.1 ≤ 9 → WI s → WI (sit b n m s) := by
  intro m
  induction m with
  | zero => intro s _ h; exact h
  | succ m ih => intro s hs h; exact ih _ (sstp_m s hs) (WI_step s hs h)
theorem s00_wf {b : Int → Int} {n : Int} {M : List (List Int × List Int)} (h : Q b n s00 (sY M)) : ∀ c ∈ M, WFc c := by
  obtain ⟨-, m, hm⟩ := (h (sY M)).mpr ⟨rfl, 0, rfl⟩
  have h0 : WI s00 := ⟨⟨⟨by decide, by decide⟩, fun c hc => (nomatch hc), trivial⟩, by decide⟩
  have := WI_sit (b := b) (n := n) m s00 (by decide) h0
  rw [hm] at this
  exact this
