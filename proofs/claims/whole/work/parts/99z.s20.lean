section
variable {b Pc Pl Nm X X1 X2 X3 U U1 U2 U3 C C1 C2 C3 : Int → Int} {c c1 c2 c3 e e1 e2 e3 : List Int} {dp wi wa i0 : Int}
/-- a fact, or a test in brackets, was read by the class, dp deep -/
def FCC (dp : Int) (b Pc Pl Nm X X2 U U2 C C2 : Int → Int) (c e : List Int) : Prop := X2 6 = X 6 ∧ (0 ≤ X2 10 ∧ X2 10 ≤ 10000) ∧ (X2 10 = 0 → CPG b Pc Pl Nm X X2 U U2 C C2 c ∧ X 9 < X2 9 ∧ CR e c ∧ e ≠ [] ∧ ∀ O E S M, dpo O = dp → Q b (X 6) (4, -1, -1, 0, 0, X 9, U 4, O, E, S, M) (5, -1, -1, 0, 0, X2 9, U2 4, O, E ++ e, S, M)) ∧ (¬ X2 10 = 0 → ∀ O E S M, dpo O = dp → Q b (X 6) (4, -1, -1, 0, 0, X 9, U 4, O, E, S, M) (sX (X2 10)))
def OB (O : List Int) : Prop := O = [] ∨ ∃ t, O = 91 :: t
/-- a test was read by the class, dp deep -/
def TSC (dp : Int) (b Pc Pl Nm X X2 U U2 C C2 : Int → Int) (c e : List Int) : Prop := X2 6 = X 6 ∧ (0 ≤ X2 10 ∧ X2 10 ≤ 10000) ∧ (X2 10 = 0 → CPG b Pc Pl Nm X X2 U U2 C C2 c ∧ X 9 < X2 9 ∧ CR e c ∧ e ≠ [] ∧ ∀ O E S M, dpo O = dp → OB O → Q b (X 6) (4, -1, -1, 0, 0, X 9, U 4, O, E, S, M) (7, -1, -1, 0, 0, X2 9, U2 4, O, E ++ e, S, M)) ∧ (¬ X2 10 = 0 → ∀ O E S M, dpo O = dp → OB O → Q b (X 6) (4, -1, -1, 0, 0, X 9, U 4, O, E, S, M) (sX (X2 10)))
theorem CPG.nx (h : CPG b Pc Pl Nm X X1 U U1 C C1 c) (hn : NX b Pc Pl Nm X1 X2) : CPG b Pc Pl Nm X X2 U U1 C C1 c := by
  have hi := nxt_in (b := b) (n := X1 6) (q := X1 9) h.1.1.nx.1.2
  obtain ⟨⟨k1, k2, k3, k4⟩, a2, a3, a4, a5, a6, a7⟩ := h
  obtain ⟨n1, n2, n3, n4, n5, n6⟩ := hn
  exact ⟨⟨n1, n5.trans k2, k3, by omega⟩, n6.trans a2, by omega, a4, by omega, a6, a7⟩
theorem CPG.pt {o : Int} (hk : CK b Pc Pl Nm X U) (h : CPG b Pc Pl Nm X X1 U U1 C C1 c) (ho : ¬ o = -1) (hl : (c.length : Int) + 1 ≤ X1 9 - X 9) : (0 ≤ U1 3 ∧ U1 3 < 400) ∧ CPG b Pc Pl Nm X X1 U (xup U1 3 (U1 3 + ((opl o).length : Int))) C (wrl C1 (U1 3) (opl o)) (c ++ opl o) := by
  obtain ⟨⟨k1, k2, k3, k4⟩, a2, a3, a4, a5, a6, a7⟩ := h
  have h1 := opl_len ho
  have hk4 := hk.2.2.2
  have hx9 := k1.nx.1
  have hT1 := k1.1.1
  have hl2 : ((c ++ opl o).length : Int) = (c.length : Int) + 1 := by rw [List.length_append]; omega
  refine ⟨by omega, ⟨k1, k2, k3, ?_⟩, a2, a3, a4, by rw [hl2]; omega, ?_, ?_⟩
  · show 0 ≤ U1 3 + ((opl o).length : Int) ∧ U1 3 + ((opl o).length : Int) ≤ X1 9; omega
  · rw [wrl_app, ← a6, a7]
  · show U1 3 + ((opl o).length : Int) = _; rw [hl2]; omega
/-! brackets -/
theorem BR.deep (h : CK b Pc Pl Nm X U) (h9 : X 7 = 91) (hd : dp = 10) : FCC dp b Pc Pl Nm X (xup X 10 (1 + 8 * X 9 + 2)) U U C C [] [] ∧ ¬ (1 + 8 * X 9 + 2 = 0) := by
  have hh := h.hd
  have hT1 := hh.1.1
  have ht : tc b (X 6) (X 9) = 91 := (tkk_sg hh.1 hh.2.1.1 (by omega)).mp (hh.2.2.2.symm.trans h9)
  have hw := tw_no (b := b) (n := X 6) (q := X 9) hh.1 hh.2.1.1 (by omega)
  refine ⟨⟨rfl, ⟨by show 0 ≤ 1 + 8 * X 9 + 2; omega, by show 1 + 8 * X 9 + 2 ≤ 10000; omega⟩, fun r => absurd (show 1 + 8 * X 9 + 2 = 0 from r) (by omega), fun _ O E S M hO => ?_⟩, by omega⟩
  have := q4bf (b := b) (n := X 6) (lo := -1) (ti := -1) (cx := 0) (sg := 0) (p := X 9) (k := U 4) (O := O) (E := E) (S := S) (M := M) (by rw [hh.2.2.1]; omega) (by rw [hh.2.2.1]; exact ht) (by omega)
  rw [hh.2.2.1] at this
  exact this
theorem BR.go (h : CK b Pc Pl Nm X U) (h9 : X 7 = 91) (hd : dp < 10) (hn : NX b Pc Pl Nm X X1) : CPG b Pc Pl Nm X X1 U U C C [] ∧ X 9 < X1 9 ∧ ∀ O E S M, dpo O = dp → Q b (X 6) (4, -1, -1, 0, 0, X 9, U 4, O, E, S, M) (4, -1, -1, 0, 0, X1 9, U 4, 91 :: O, E, S, M) := by
  have hh := h.hd
  have hT1 := hh.1.1
  have ht : tc b (X 6) (X 9) = 91 := (tkk_sg hh.1 hh.2.1.1 (by omega)).mp (hh.2.2.2.symm.trans h9)
  have hlt := tc_lt0 (b := b) (n := X 6) (q := X 9) (by omega)
  have hw := tw_no (b := b) (n := X 6) (q := X 9) hh.1 hh.2.1.1 (by omega)
  have hnx := nxt_sg (b := b) (n := X 6) (q := X 9) (c := 91) hh.1 hh.2.1.1 (by omega) ht
  have hsk := sk_in (b := b) (n := X 6) (p := X 9 + 1) (by omega)
  have hp := (CPG.rf (C := C) h).nx hn
  have n2 := hn.2.1
  rw [hnx] at n2
  refine ⟨hp, by omega, fun O E S M hO => ?_⟩
  have := q4b (b := b) (n := X 6) (lo := -1) (ti := -1) (cx := 0) (sg := 0) (p := X 9) (k := U 4) (O := O) (E := E) (S := S) (M := M) (by rw [hh.2.2.1]; omega) (by rw [hh.2.2.1]; exact ht) (by omega)
  rw [hh.2.2.1] at this
  rw [n2]
  exact this.tr (q4s (by omega))
theorem BR.f1 (h : CK b Pc Pl Nm X U) (h9 : X 7 = 91) (hd : dp < 10) (hn : NX b Pc Pl Nm X X1) (ht : TSC (dp + 1) b Pc Pl Nm X1 X2 U U2 C C2 c e) (h0 : ¬ X2 10 = 0) : FCC dp b Pc Pl Nm X X2 U U2 C C2 [] [] := by
  obtain ⟨g1, g2, g3⟩ := BR.go (C := C) h h9 hd hn
  refine ⟨ht.1.trans g1.2.1, ht.2.1, fun r => absurd r h0, fun _ O E S M hO => (g3 O E S M hO).tr ?_⟩
  rw [← g1.2.1]
  exact ht.2.2.2 h0 _ E S M (by show (if (91 : Int) = 11 ∨ (91 : Int) = 91 then 1 else 0) + dpo O = dp + 1; rw [if_pos (Or.inr rfl)]; omega) (Or.inr ⟨O, rfl⟩)
theorem BR.f2 (h : CK b Pc Pl Nm X U) (h9 : X 7 = 91) (hd : dp < 10) (hn : NX b Pc Pl Nm X X1) (ht : TSC (dp + 1) b Pc Pl Nm X1 X2 U U2 C C2 c e) (h0 : X2 10 = 0) (h93 : ¬ X2 7 = 93) : FCC dp b Pc Pl Nm X (xup X2 10 (1 + 8 * X2 9 + 0)) U U2 C C2 [] [] ∧ ¬ (1 + 8 * X2 9 + 0 = 0) := by
  obtain ⟨g1, g2, g3⟩ := BR.go (C := C) h h9 hd hn
  obtain ⟨t1, t2, t3, t4, t5⟩ := ht.2.2.1 h0
  have hh := t1.1.hd
  have hT1 := hh.1.1
  have hc : ¬ tc b (X2 6) (X2 9) = 93 := fun r => h93 (hh.2.2.2.trans ((tkk_sg hh.1 hh.2.1.1 (by omega)).mpr r))
  rw [t1.2.1, g1.2.1] at hc
  refine ⟨⟨ht.1.trans g1.2.1, ⟨by show 0 ≤ 1 + 8 * X2 9 + 0; omega, by show 1 + 8 * X2 9 + 0 ≤ 10000; omega⟩, fun r => absurd (show 1 + 8 * X2 9 + 0 = 0 from r) (by omega), fun _ O E S M hO => (g3 O E S M hO).tr ?_⟩, by omega⟩
  have q1 := t5 (91 :: O) E S M (by show (if (91 : Int) = 11 ∨ (91 : Int) = 91 then 1 else 0) + dpo O = dp + 1; rw [if_pos (Or.inr rfl)]; omega) (Or.inr ⟨O, rfl⟩)
  rw [g1.2.1] at q1
  exact q1.tr (q7f hc)
theorem BR.ok (h : CK b Pc Pl Nm X U) (h9 : X 7 = 91) (hd : dp < 10) (hn : NX b Pc Pl Nm X X1) (ht : TSC (dp + 1) b Pc Pl Nm X1 X2 U U2 C C2 c e) (h0 : X2 10 = 0) (h93 : X2 7 = 93) (hn2 : NX b Pc Pl Nm X2 X3) : FCC dp b Pc Pl Nm X X3 U U2 C C2 c e ∧ X3 10 = 0 := by
  obtain ⟨g1, g2, g3⟩ := BR.go (C := C) h h9 hd hn
  obtain ⟨t1, t2, t3, t4, t5⟩ := ht.2.2.1 h0
  have hh := t1.1.hd
  have hT1 := hh.1.1
  have hc : tc b (X2 6) (X2 9) = 93 := (tkk_sg hh.1 hh.2.1.1 (by omega)).mp (hh.2.2.2.symm.trans h93)
  have hlt := tc_lt0 (b := b) (n := X2 6) (q := X2 9) (by omega)
  have hnx := nxt_sg (b := b) (n := X2 6) (q := X2 9) (c := 93) hh.1 hh.2.1.1 (by omega) hc
  have hsk := sk_in (b := b) (n := X2 6) (p := X2 9 + 1) (by omega)
  have hp := (g1.tr t1).nx hn2
  have h10 : X3 10 = 0 := hn2.2.2.2.2.1.trans h0
  have n2 := hn2.2.1
  rw [hnx] at n2
  have e6 : X2 6 = X 6 := t1.2.1.trans g1.2.1
  refine ⟨⟨hn2.2.2.2.2.2.trans e6, by omega, fun _ => ⟨hp, by omega, t3, t4, fun O E S M hO => (g3 O E S M hO).tr ?_⟩, fun r => absurd h10 r⟩, h10⟩
  have q1 := t5 (91 :: O) E S M (by show (if (91 : Int) = 11 ∨ (91 : Int) = 91 then 1 else 0) + dpo O = dp + 1; rw [if_pos (Or.inr rfl)]; omega) (Or.inr ⟨O, rfl⟩)
  rw [g1.2.1] at q1
  rw [e6] at hc n2 hlt
  rw [n2]
  exact q1.tr ((q7b hc).tr (q5k (by omega) _ _ _ _ _ _))
/-! nots -/
def FLI (dp wi : Int) (b Pc Pl Nm X X1 U C : Int → Int) : Prop := CPG b Pc Pl Nm X X1 U U C C [] ∧ CK b Pc Pl Nm X U ∧ (dp ≤ wi ∧ wi ≤ 10) ∧ X 9 + (wi - dp) ≤ X1 9 ∧ ∀ O E S M, dpo O = dp → Q b (X 6) (4, -1, -1, 0, 0, X 9, U 4, O, E, S, M) (4, -1, -1, 0, 0, X1 9, U 4, List.replicate (wi - dp).toNat 11 ++ O, E, S, M)
theorem dpo_rep {O : List Int} : ∀ k : Nat, dpo (List.replicate k 11 ++ O) = (k : Int) + dpo O := by
  intro k
  induction k with
  | zero => show dpo O = ((0 : Nat) : Int) + dpo O; omega
  | succ k ih =>
    show (if (11 : Int) = 11 ∨ (11 : Int) = 91 then 1 else 0) + dpo (List.replicate k 11 ++ O) = _
    rw [if_pos (Or.inl rfl), ih]; omega
theorem FLI.st (h : CK b Pc Pl Nm X U) (hd : dp ≤ 10) : FLI dp dp b Pc Pl Nm X X U C := ⟨CPG.rf h, h, ⟨Int.le_refl _, hd⟩, by omega, fun O E S M _ => by rw [Int.sub_self]; exact Q.rfl_⟩
theorem FLI.nt (h : FLI dp wi b Pc Pl Nm X X1 U C) (h7 : X1 7 = 275) (hw : ¬ wi = 10) (hn : NX b Pc Pl Nm X1 X2) : FLI dp (wi + 1) b Pc Pl Nm X X2 U C := by
  obtain ⟨h1, hk, h2, h3, h4⟩ := h
  have hh := h1.1.hd
  have e6 := h1.2.1
  have ht : tw b (X1 6) (X1 9) = 15 := (tkk_w hh.1 hh.2.1.1 (by omega) (by omega)).mp (hh.2.2.2.symm.trans h7)
  have hlt := tw_lt0 (b := b) (n := X1 6) (q := X1 9) (by omega) hh.2.1.2
  have hnx := nxt_wrd (b := b) (n := X1 6) (q := X1 9) (by omega)
  have hp := h1.nx hn
  have n2 := hn.2.1
  rw [hnx] at n2
  have n2' : X2 9 = sk b (X1 6) (le_ b (X1 6) (X1 9)) := n2
  have hsk := sk_in (b := b) (n := X1 6) (p := le_ b (X1 6) (X1 9)) hlt.2
  refine ⟨hp, hk, by omega, by omega, fun O E S M hO => (h4 O E S M hO).tr ?_⟩
  have hd : dpo (List.replicate (wi - dp).toNat 11 ++ O) = wi := by rw [dpo_rep, hO]; omega
  have := q4n (b := b) (n := X1 6) (lo := -1) (ti := -1) (cx := 0) (sg := 0) (p := X1 9) (k := U 4) (O := List.replicate (wi - dp).toNat 11 ++ O) (E := E) (S := S) (M := M) (by rw [hh.2.2.1]; exact ht) (by omega)
  rw [hh.2.2.1] at this
  rw [show (wi + 1 - dp).toNat = (wi - dp).toNat + 1 by omega, n2', ← e6]
  exact this.tr (q4s hlt.2)
theorem FLI.deep (h : FLI dp wi b Pc Pl Nm X X1 U C) (h7 : X1 7 = 275) (hw : wi = 10) : FCC dp b Pc Pl Nm X (xup X1 10 (1 + 8 * X1 9 + 2)) U U C C [] [] ∧ ¬ (1 + 8 * X1 9 + 2 = 0) := by
  obtain ⟨h1, hk, h2, h3, h4⟩ := h
  have hh := h1.1.hd
  have hT1 := hh.1.1
  have e6 := h1.2.1
  have ht : tw b (X1 6) (X1 9) = 15 := (tkk_w hh.1 hh.2.1.1 (by omega) (by omega)).mp (hh.2.2.2.symm.trans h7)
  refine ⟨⟨e6, ⟨by show 0 ≤ 1 + 8 * X1 9 + 2; omega, by show 1 + 8 * X1 9 + 2 ≤ 10000; omega⟩, fun r => absurd (show 1 + 8 * X1 9 + 2 = 0 from r) (by omega), fun _ O E S M hO => (h4 O E S M hO).tr ?_⟩, by omega⟩
  have hd : dpo (List.replicate (wi - dp).toNat 11 ++ O) = wi := by rw [dpo_rep, hO]; omega
  have := q4nf (b := b) (n := X1 6) (lo := -1) (ti := -1) (cx := 0) (sg := 0) (p := X1 9) (k := U 4) (O := List.replicate (wi - dp).toNat 11 ++ O) (E := E) (S := S) (M := M) (by rw [hh.2.2.1]; exact ht) (by omega)
  rw [hh.2.2.1] at this
  rw [← e6]
  exact this
theorem FCC.cm (hk : CK b Pc Pl Nm X U) (h5 : ¬ X 7 = 275) (h9 : ¬ X 7 = 91) (h : CMC b Pc Pl Nm X X2 U U2 C C2 c e) : FCC wi b Pc Pl Nm X X2 U U2 C C2 c e := by
  have hh := hk.hd
  have ht : ¬ tw b (X 6) (sk b (X 6) (X 9)) = 15 := fun r => h5 (hh.2.2.2.trans ((tkk_w (i := 15) hh.1 hh.2.1.1 (by omega) (by omega)).mpr (by rw [hh.2.2.1] at r; exact r)))
  have hc : ¬ tc b (X 6) (sk b (X 6) (X 9)) = 91 := fun r => h9 (hh.2.2.2.trans ((tkk_sg hh.1 hh.2.1.1 (by omega)).mpr (by rw [hh.2.2.1] at r; exact r)))
  obtain ⟨a1, a2, a3, a4⟩ := h
  refine ⟨a1, a2, fun h0 => ?_, fun h0 O E S M _ => (q4c ht hc).tr (a4 h0 O E S M)⟩
  obtain ⟨d1, d2, d3, d4, d5⟩ := a3 h0
  exact ⟨d1, d2, d3, d4, fun O E S M _ => (q4c ht hc).tr (d5 O E S M)⟩
theorem cr_rep : ∀ k : Nat, (CR (List.replicate (2 * k) 11) []) ∧ CR (List.replicate (2 * k + 1) 11) [14] := by
  intro k
  induction k with
  | zero => exact ⟨CR.nil, cr_11⟩
  | succ k ih =>
    have e1 : List.replicate (2 * (k + 1)) (11 : Int) = [11, 11] ++ List.replicate (2 * k) 11 := by rw [show 2 * (k + 1) = 2 * k + 1 + 1 by omega]; rfl
    have e2 : List.replicate (2 * (k + 1) + 1) (11 : Int) = [11, 11] ++ List.replicate (2 * k + 1) 11 := by rw [show 2 * (k + 1) + 1 = 2 * k + 1 + 1 + 1 by omega]; rfl
    rw [e1, e2]
    exact ⟨CR.nn.app ih.1, CR.nn.app ih.2⟩
theorem q5rep {n p k : Int} {O S : List Int} {M : List (List Int × List Int)} : ∀ (j : Nat) (E : List Int), Q b n (5, -1, -1, 0, 0, p, k, List.replicate j 11 ++ O, E, S, M) (5, -1, -1, 0, 0, p, k, O, E ++ List.replicate j 11, S, M) := by
  intro j
  induction j with
  | zero => intro E; show Q b n (5, -1, -1, 0, 0, p, k, O, E, S, M) (5, -1, -1, 0, 0, p, k, O, E ++ [], S, M); rw [List.append_nil]; exact Q.rfl_
  | succ j ih =>
    intro E
    refine (q5p (x := 11) (O := List.replicate j 11 ++ O) (Or.inl rfl)).tr ((ih _).tr ?_)
    rw [List.append_assoc]
    exact Q.rfl_
theorem FLI.ff (h : FLI dp wi b Pc Pl Nm X X1 U C) (hf : FCC wi b Pc Pl Nm X1 X2 U U2 C C2 c e) (h0 : ¬ X2 10 = 0) : FCC dp b Pc Pl Nm X X2 U U2 C C2 [] [] := by
  obtain ⟨h1, hk, h2, h3, h4⟩ := h
  refine ⟨hf.1.trans h1.2.1, hf.2.1, fun r => absurd r h0, fun _ O E S M hO => (h4 O E S M hO).tr ?_⟩
  rw [← h1.2.1]
  exact hf.2.2.2 h0 _ E S M (by rw [dpo_rep, hO]; omega)
theorem FLI.ev (h : FLI dp wi b Pc Pl Nm X X1 U C) (hf : FCC wi b Pc Pl Nm X1 X2 U U2 C C2 c e) (h0 : X2 10 = 0) (h2 : Int.tmod (wi - dp) 2 = 0) : FCC dp b Pc Pl Nm X X2 U U2 C C2 c (e ++ List.replicate (wi - dp).toNat 11) := by
  obtain ⟨h1, hk, h2b, h3, h4⟩ := h
  obtain ⟨f1, f2, f3, f4, f5⟩ := hf.2.2.1 h0
  obtain ⟨j, hj⟩ : ∃ j : Nat, (wi - dp).toNat = 2 * j := ⟨(wi - dp).toNat / 2, by rw [Int.tmod_eq_emod_of_nonneg (by omega)] at h2; omega⟩
  have hp := h1.tr f1
  rw [List.nil_append] at hp
  refine ⟨hf.1.trans h1.2.1, hf.2.1, fun _ => ⟨hp, by omega, ?_, fun r => f4 (List.append_eq_nil_iff.mp r).1, fun O E S M hO => (h4 O E S M hO).tr ?_⟩, fun r => absurd h0 r⟩
  · have := f3.app (cr_rep j).1
    rw [List.append_nil, ← hj] at this
    exact this
  · have q1 := f5 (List.replicate (wi - dp).toNat 11 ++ O) E S M (by rw [dpo_rep, hO]; omega)
    rw [h1.2.1] at q1
    refine q1.tr ((q5rep _ _).tr ?_)
    rw [List.append_assoc]
    exact Q.rfl_
theorem FLI.od (h : FLI dp wi b Pc Pl Nm X X1 U C) (hf : FCC wi b Pc Pl Nm X1 X2 U U2 C C2 c e) (h0 : X2 10 = 0) (h2 : ¬ Int.tmod (wi - dp) 2 = 0) : (0 ≤ U2 3 ∧ U2 3 < 400) ∧ FCC dp b Pc Pl Nm X X2 U (xup U2 3 (U2 3 + ((opl 14).length : Int))) C (wrl C2 (U2 3) (opl 14)) (c ++ opl 14) (e ++ List.replicate (wi - dp).toNat 11) := by
  obtain ⟨h1, hk, h2b, h3, h4⟩ := h
  obtain ⟨f1, f2, f3, f4, f5⟩ := hf.2.2.1 h0
  obtain ⟨j, hj⟩ : ∃ j : Nat, (wi - dp).toNat = 2 * j + 1 := ⟨(wi - dp).toNat / 2, by rw [Int.tmod_eq_emod_of_nonneg (by omega)] at h2; omega⟩
  have hp := h1.tr f1
  rw [List.nil_append] at hp
  have f1l := f1.2.2.2.2.1
  have hpt := hp.pt (o := 14) hk (by decide) (by omega)
  refine ⟨hpt.1, hf.1.trans h1.2.1, hf.2.1, fun _ => ⟨hpt.2, by omega, ?_, fun r => f4 (List.append_eq_nil_iff.mp r).1, fun O E S M hO => (h4 O E S M hO).tr ?_⟩, fun r => absurd h0 r⟩
  · have := f3.app (cr_rep j).2
    rw [← hj] at this
    exact this
  · have q1 := f5 (List.replicate (wi - dp).toNat 11 ++ O) E S M (by rw [dpo_rep, hO]; omega)
    rw [h1.2.1] at q1
    refine q1.tr ((q5rep _ _).tr ?_)
    rw [List.append_assoc]
    exact Q.rfl_
/-! ands and ors -/
def wop (wa : Int) (O : List Int) : List Int := if wa = 1 then 13 :: O else O
theorem OB.hd {O : List Int} (h : OB O) : O.headD 0 = 0 ∨ O.headD 0 = 91 := by
  rcases h with rfl | ⟨t, rfl⟩
  · exact Or.inl rfl
  · exact Or.inr rfl
theorem wop_h {O : List Int} (h : OB O) : ¬ ((wop wa O).headD 0 = 11 ∨ (wop wa O).headD 0 = 12) := by
  unfold wop
  by_cases c : wa = 1
  · rw [if_pos c]; show ¬ ((13 : Int) = 11 ∨ (13 : Int) = 12); omega
  · rw [if_neg c]; have := h.hd; omega
theorem wop_d {O : List Int} : dpo (wop wa O) = dpo O := by
  unfold wop
  by_cases c : wa = 1
  · rw [if_pos c]; show (if (13 : Int) = 11 ∨ (13 : Int) = 91 then 1 else 0) + dpo O = _; rw [if_neg (by omega)]; omega
  · rw [if_neg c]
theorem dpo_b {x : Int} {O : List Int} (h : x = 12 ∨ x = 13) : dpo (x :: O) = dpo O := by
  show (if x = 11 ∨ x = 91 then 1 else 0) + dpo O = _
  rw [if_neg (by omega)]; omega
def TSL (dp wa i0 : Int) (b Pc Pl Nm X X1 U U1 C C1 : Int → Int) (c e : List Int) : Prop := CPG b Pc Pl Nm X X1 U U1 C C1 c ∧ CK b Pc Pl Nm X U ∧ (0 ≤ i0 ∧ i0 ≤ X1 9 - X 9) ∧ X 9 < X1 9 ∧ (wa = 0 ∨ wa = 1) ∧ (c.length : Int) + wa ≤ X1 9 - X 9 ∧ CR e c ∧ e ≠ [] ∧ ∀ O E S M, dpo O = dp → OB O → Q b (X 6) (4, -1, -1, 0, 0, X 9, U 4, O, E, S, M) (5, -1, -1, 0, 0, X1 9, U1 4, wop wa O, E ++ e, S, M)
theorem TSL.st (h : CK b Pc Pl Nm X U) (hf : FCC dp b Pc Pl Nm X X1 U U1 C C1 c e) (h0 : X1 10 = 0) : TSL dp 0 0 b Pc Pl Nm X X1 U U1 C C1 c e := by
  obtain ⟨f1, f2, f3, f4, f5⟩ := hf.2.2.1 h0
  have := f1.2.2.2.2.1
  exact ⟨f1, h, by omega, f2, Or.inl rfl, by omega, f3, f4, fun O E S M hO _ => f5 O E S M hO⟩
theorem TSC.f0 (hf : FCC dp b Pc Pl Nm X X1 U U1 C C1 c e) (h0 : ¬ X1 10 = 0) : TSC dp b Pc Pl Nm X X1 U U1 C C1 [] [] := ⟨hf.1, hf.2.1, fun r => absurd r h0, fun _ O E S M hO _ => hf.2.2.2 h0 O E S M hO⟩
theorem TSL.wd {w : Int} (h : TSL dp wa i0 b Pc Pl Nm X X1 U U1 C C1 c e) (hw : w = 16 ∨ w = 17) (h7 : X1 7 = 260 + w) (hn : NX b Pc Pl Nm X1 X2) : tw b (X 6) (X1 9) = w ∧ sk b (X 6) (X1 9) = X1 9 ∧ X2 9 = sk b (X 6) (le_ b (X 6) (X1 9)) ∧ le_ b (X 6) (X1 9) ≤ X 6 ∧ X1 9 < le_ b (X 6) (X1 9) ∧ le_ b (X 6) (X1 9) ≤ X2 9 ∧ i0 < 400 := by
  obtain ⟨h1, hk, h2, h3, h4, h5, h6, h6b, h7b⟩ := h
  have hh := h1.1.hd
  have hT1 := hh.1.1
  have e6 := h1.2.1
  have ht : tw b (X1 6) (X1 9) = w := (tkk_w hh.1 hh.2.1.1 (by omega) (by omega)).mp (hh.2.2.2.symm.trans h7)
  have hlt := tw_lt0 (b := b) (n := X1 6) (q := X1 9) (by omega) hh.2.1.2
  have hnx := nxt_wrd (b := b) (n := X1 6) (q := X1 9) (by omega)
  have n2 := hn.2.1
  rw [hnx] at n2
  have n2' : X2 9 = sk b (X1 6) (le_ b (X1 6) (X1 9)) := n2
  have hsk := sk_in (b := b) (n := X1 6) (p := le_ b (X1 6) (X1 9)) hlt.2
  have hkx := hk.hd.2.1
  rw [← e6]
  exact ⟨ht, hh.2.2.1, n2', hlt.2, hlt.1, by omega, by omega⟩
theorem TSL.an (h : TSL dp wa i0 b Pc Pl Nm X X1 U U1 C C1 c e) (h7 : X1 7 = 276) (hn : NX b Pc Pl Nm X1 X2) (hf : FCC dp b Pc Pl Nm X2 X3 U1 U3 C1 C3 c3 e3) (h0 : X3 10 = 0) : (0 ≤ U3 3 ∧ U3 3 < 400) ∧ X1 9 < X3 9 ∧ TSL dp wa (i0 + 1) b Pc Pl Nm X X3 U (xup U3 3 (U3 3 + ((opl 12).length : Int))) C (wrl C3 (U3 3) (opl 12)) (c ++ c3 ++ opl 12) (e ++ e3 ++ [12]) := by
  obtain ⟨w1, w2, w3, w4, w5, w6, w7⟩ := h.wd (w := 16) (Or.inl rfl) h7 hn
  obtain ⟨h1, hk, h2, h3, h4, h5, h6, h6b, h7b⟩ := h
  obtain ⟨f1, f2, f3, f4, f5⟩ := hf.2.2.1 h0
  have f1l := f1.2.2.2.2.1
  have hp := (h1.nx hn).tr f1
  have hl : ((c ++ c3).length : Int) = (c.length : Int) + (c3.length : Int) := by rw [List.length_append]; omega
  have hpt := hp.pt (o := 12) hk (by decide) (by omega)
  have hl2 : ((c ++ c3 ++ opl 12).length : Int) = (c.length : Int) + (c3.length : Int) + 1 := by rw [List.length_append]; show (((c ++ c3).length + 1 : Nat) : Int) = _; omega
  refine ⟨hpt.1, by omega, hpt.2, hk, by omega, by omega, h4, by rw [hl2]; omega, (h6.app f3).app cr_12, fun r => h6b (List.append_eq_nil_iff.mp (List.append_eq_nil_iff.mp r).1).1, fun O E S M hO hB => (h7b O E S M hO hB).tr ?_⟩
  have q1 := q5a (b := b) (n := X 6) (lo := -1) (ti := -1) (cx := 0) (sg := 0) (p := X1 9) (k := U1 4) (O := wop wa O) (E := E ++ e) (S := S) (M := M) (wop_h hB) (by rw [w2]; exact w1)
  rw [w2] at q1
  have q2 := q4s (b := b) (n := X 6) (lo := -1) (ti := -1) (cx := 0) (sg := 0) (p := le_ b (X 6) (X1 9)) (k := U1 4) (O := 12 :: wop wa O) (E := E ++ e) (S := S) (M := M) w4
  rw [← w3] at q2
  have q3 := f5 (12 :: wop wa O) (E ++ e) S M (by rw [dpo_b (Or.inl rfl), wop_d]; exact hO)
  rw [(h1.nx hn).2.1] at q3
  refine q1.tr (q2.tr (q3.tr ((q5p (Or.inr rfl)).tr ?_)))
  rw [List.append_assoc, List.append_assoc, List.append_assoc]
  exact Q.rfl_
theorem TSL.o0 (h : TSL dp 0 i0 b Pc Pl Nm X X1 U U1 C C1 c e) (h7 : X1 7 = 277) (hn : NX b Pc Pl Nm X1 X2) (hf : FCC dp b Pc Pl Nm X2 X3 U1 U3 C1 C3 c3 e3) (h0 : X3 10 = 0) : X1 9 < X3 9 ∧ TSL dp 1 (i0 + 1) b Pc Pl Nm X X3 U U3 C C3 (c ++ c3) (e ++ e3) := by
  obtain ⟨w1, w2, w3, w4, w5, w6, w7⟩ := h.wd (w := 17) (Or.inr rfl) h7 hn
  obtain ⟨h1, hk, h2, h3, h4, h5, h6, h6b, h7b⟩ := h
  obtain ⟨f1, f2, f3, f4, f5⟩ := hf.2.2.1 h0
  have f1l := f1.2.2.2.2.1
  have hp := (h1.nx hn).tr f1
  have hl : ((c ++ c3).length : Int) = (c.length : Int) + (c3.length : Int) := by rw [List.length_append]; omega
  refine ⟨by omega, hp, hk, by omega, by omega, Or.inr rfl, by rw [hl]; omega, h6.app f3, fun r => h6b (List.append_eq_nil_iff.mp r).1, fun O E S M hO hB => (h7b O E S M hO hB).tr ?_⟩
  have hh := hB.hd
  have q1 := q5o (b := b) (n := X 6) (lo := -1) (ti := -1) (cx := 0) (sg := 0) (p := X1 9) (k := U1 4) (O := O) (E := E ++ e) (S := S) (M := M) (by omega) (by rw [w2]; exact w1) (by omega)
  rw [w2] at q1
  have q2 := q4s (b := b) (n := X 6) (lo := -1) (ti := -1) (cx := 0) (sg := 0) (p := le_ b (X 6) (X1 9)) (k := U1 4) (O := 13 :: O) (E := E ++ e) (S := S) (M := M) w4
  rw [← w3] at q2
  have q3 := f5 (13 :: O) (E ++ e) S M (by rw [dpo_b (Or.inr rfl)]; exact hO)
  rw [(h1.nx hn).2.1, List.append_assoc] at q3
  exact q1.tr (q2.tr q3)
theorem TSL.p1 (h : TSL dp 1 i0 b Pc Pl Nm X X1 U U1 C C1 c e) : (0 ≤ U1 3 ∧ U1 3 < 400) ∧ CPG b Pc Pl Nm X X1 U (xup U1 3 (U1 3 + ((opl 13).length : Int))) C (wrl C1 (U1 3) (opl 13)) (c ++ opl 13) := h.1.pt (o := 13) h.2.1 (by decide) h.2.2.2.2.2.1
theorem TSL.o1 (h : TSL dp 1 i0 b Pc Pl Nm X X1 U U1 C C1 c e) (h7 : X1 7 = 277) (hn : NX b Pc Pl Nm X1 X2) (hf : FCC dp b Pc Pl Nm X2 X3 (xup U1 3 (U1 3 + ((opl 13).length : Int))) U3 (wrl C1 (U1 3) (opl 13)) C3 c3 e3) (h0 : X3 10 = 0) : X1 9 < X3 9 ∧ TSL dp 1 (i0 + 1) b Pc Pl Nm X X3 U U3 C C3 (c ++ opl 13 ++ c3) (e ++ [13] ++ e3) := by
  have hpp := h.p1.2
  obtain ⟨w1, w2, w3, w4, w5, w6, w7⟩ := h.wd (w := 17) (Or.inr rfl) h7 hn
  obtain ⟨h1, hk, h2, h3, h4, h5, h6, h6b, h7b⟩ := h
  obtain ⟨f1, f2, f3, f4, f5⟩ := hf.2.2.1 h0
  have f1l := f1.2.2.2.2.1
  have hp := (hpp.nx hn).tr f1
  have hl : ((c ++ opl 13 ++ c3).length : Int) = (c.length : Int) + 1 + (c3.length : Int) := by rw [List.length_append, List.length_append]; show ((c.length + 1 + c3.length : Nat) : Int) = _; omega
  refine ⟨by omega, hp, hk, by omega, by omega, Or.inr rfl, by rw [hl]; omega, (h6.app cr_13).app f3, fun r => h6b (List.append_eq_nil_iff.mp (List.append_eq_nil_iff.mp r).1).1, fun O E S M hO hB => (h7b O E S M hO hB).tr ?_⟩
  have q1 := q5oo (b := b) (n := X 6) (lo := -1) (ti := -1) (cx := 0) (sg := 0) (p := X1 9) (k := U1 4) (O := O) (E := E ++ e) (S := S) (M := M) (by rw [w2]; exact w1)
  rw [w2] at q1
  have q2 := q4s (b := b) (n := X 6) (lo := -1) (ti := -1) (cx := 0) (sg := 0) (p := le_ b (X 6) (X1 9)) (k := U1 4) (O := 13 :: O) (E := E ++ e ++ [13]) (S := S) (M := M) w4
  rw [← w3] at q2
  have q3 := f5 (13 :: O) (E ++ e ++ [13]) S M (by rw [dpo_b (Or.inr rfl)]; exact hO)
  rw [(h1.nx hn).2.1] at q3
  refine q1.tr (q2.tr (q3.tr ?_))
  rw [List.append_assoc, List.append_assoc, List.append_assoc]
  exact Q.rfl_
theorem TSL.ff {x : Int} (h : TSL dp wa i0 b Pc Pl Nm X X1 U U1 C C1 c e) (hn : NX b Pc Pl Nm X1 X2) (h7 : X1 7 = 260 + x) (hx : x = 16 ∨ x = 17) (hu : U2 4 = U1 4) (hf : FCC dp b Pc Pl Nm X2 X3 U2 U3 C2 C3 c3 e3) (h0 : ¬ X3 10 = 0) : TSC dp b Pc Pl Nm X X3 U U3 C C3 [] [] := by
  obtain ⟨w1, w2, w3, w4, w5, w6, w7⟩ := h.wd hx h7 hn
  obtain ⟨h1, hk, h2, h3, h4, h5, h6, h6b, h7b⟩ := h
  refine ⟨hf.1.trans (h1.nx hn).2.1, hf.2.1, fun r => absurd r h0, fun _ O E S M hO hB => (h7b O E S M hO hB).tr ?_⟩
  have q3 : ∀ (y : Int) (O2 E2 : List Int), (y = 12 ∨ y = 13) → dpo O2 = dp → Q b (X 6) (4, -1, -1, 0, 0, le_ b (X 6) (X1 9), U1 4, y :: O2, E2, S, M) (sX (X3 10)) := fun y O2 E2 hy hO2 => by
    have q2 := q4s (b := b) (n := X 6) (lo := -1) (ti := -1) (cx := 0) (sg := 0) (p := le_ b (X 6) (X1 9)) (k := U1 4) (O := y :: O2) (E := E2) (S := S) (M := M) w4
    rw [← w3] at q2
    have q3 := hf.2.2.2 h0 (y :: O2) E2 S M (by rw [dpo_b hy]; exact hO2)
    rw [(h1.nx hn).2.1, hu] at q3
    exact q2.tr q3
  rcases hx with rfl | rfl
  · have q1 := q5a (b := b) (n := X 6) (lo := -1) (ti := -1) (cx := 0) (sg := 0) (p := X1 9) (k := U1 4) (O := wop wa O) (E := E ++ e) (S := S) (M := M) (wop_h hB) (by rw [w2]; exact w1)
    rw [w2] at q1
    exact q1.tr (q3 12 _ _ (Or.inl rfl) (by rw [wop_d]; exact hO))
  · rcases h4 with rfl | rfl
    · have hh := hB.hd
      have q1 := q5o (b := b) (n := X 6) (lo := -1) (ti := -1) (cx := 0) (sg := 0) (p := X1 9) (k := U1 4) (O := O) (E := E ++ e) (S := S) (M := M) (by omega) (by rw [w2]; exact w1) (by omega)
      rw [w2] at q1
      exact q1.tr (q3 13 _ _ (Or.inr rfl) hO)
    · have q1 := q5oo (b := b) (n := X 6) (lo := -1) (ti := -1) (cx := 0) (sg := 0) (p := X1 9) (k := U1 4) (O := O) (E := E ++ e) (S := S) (M := M) (by rw [w2]; exact w1)
      rw [w2] at q1
      exact q1.tr (q3 13 _ _ (Or.inr rfl) hO)
theorem TSL.nw (h : TSL dp wa i0 b Pc Pl Nm X X1 U U1 C C1 c e) (h6 : ¬ X1 7 = 276) (h7 : ¬ X1 7 = 277) : ¬ tw b (X 6) (sk b (X 6) (X1 9)) = 16 ∧ ¬ tw b (X 6) (sk b (X 6) (X1 9)) = 17 ∧ sk b (X 6) (X1 9) = X1 9 ∧ X1 6 = X 6 ∧ X1 10 = 0 := by
  have hh := h.1.1.hd
  have e6 := h.1.2.1
  have hs := hh.2.2.1
  rw [e6] at hs
  rw [hs, ← e6]
  exact ⟨fun r => h6 (hh.2.2.2.trans ((tkk_w (i := 16) hh.1 hh.2.1.1 (by omega) (by omega)).mpr r)), fun r => h7 (hh.2.2.2.trans ((tkk_w (i := 17) hh.1 hh.2.1.1 (by omega) (by omega)).mpr r)), rfl, rfl, h.1.1.2.1⟩
theorem TSL.en0 (h : TSL dp 0 i0 b Pc Pl Nm X X1 U U1 C C1 c e) (h6 : ¬ X1 7 = 276) (h7 : ¬ X1 7 = 277) : TSC dp b Pc Pl Nm X X1 U U1 C C1 c e ∧ X1 10 = 0 := by
  obtain ⟨w1, w2, w3, w4, w5⟩ := h.nw h6 h7
  obtain ⟨h1, hk, h2, h3, h4, h5, hcr, h6b, h7b⟩ := h
  refine ⟨⟨w4, by omega, fun _ => ⟨h1, h3, hcr, h6b, fun O E S M hO hB => (h7b O E S M hO hB).tr ?_⟩, fun r => absurd w5 r⟩, w5⟩
  have hh := hB.hd
  have q1 := q5e (b := b) (n := X 6) (lo := -1) (ti := -1) (cx := 0) (sg := 0) (p := X1 9) (k := U1 4) (O := O) (E := E ++ e) (S := S) (M := M) (by omega) w1 w2 (by omega)
  rw [w3] at q1
  exact q1
theorem TSL.en1 (h : TSL dp 1 i0 b Pc Pl Nm X X1 U U1 C C1 c e) (h6 : ¬ X1 7 = 276) (h7 : ¬ X1 7 = 277) : TSC dp b Pc Pl Nm X X1 U (xup U1 3 (U1 3 + ((opl 13).length : Int))) C (wrl C1 (U1 3) (opl 13)) (c ++ opl 13) (e ++ [13]) ∧ X1 10 = 0 := by
  obtain ⟨w1, w2, w3, w4, w5⟩ := h.nw h6 h7
  have hpp := h.p1.2
  obtain ⟨h1, hk, h2, h3, h4, h5, hcr, h6b, h7b⟩ := h
  refine ⟨⟨w4, by omega, fun _ => ⟨hpp, h3, hcr.app cr_13, fun r => h6b (List.append_eq_nil_iff.mp r).1, fun O E S M hO hB => (h7b O E S M hO hB).tr ?_⟩, fun r => absurd w5 r⟩, w5⟩
  have q1 := q5eo (b := b) (n := X 6) (lo := -1) (ti := -1) (cx := 0) (sg := 0) (p := X1 9) (k := U1 4) (O := O) (E := E ++ e) (S := S) (M := M) w1 w2
  rw [w3, List.append_assoc] at q1
  exact q1
end
