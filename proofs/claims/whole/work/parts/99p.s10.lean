/-! the clauses of a rule, as the reference keeps them -/
def rdl (g : Int → Int) : Int → List Int → Prop
  | _, [] => True
  | j, x :: xs => g j = x ∧ rdl g (j + 1) xs
theorem rdl_fr {g g2 : Int → Int} : ∀ (L : List Int) (j : Int), rdl g j L → (∀ i, j ≤ i → i < j + (L.length : Int) → g2 i = g i) → rdl g2 j L := by
  intro L
  induction L with
  | nil => intro j _ _; trivial
  | cons x xs ih =>
    intro j h hf
    rw [List.length_cons] at hf
    exact ⟨(hf j (by omega) (by omega)).trans h.1, ih _ h.2 (fun i i0 i1 => hf i (by omega) (by omega))⟩
theorem rdl_wrl {g : Int → Int} : ∀ (L : List Int) (j : Int) (g0 : Int → Int), rdl (wrl g0 j L) j L := by
  intro L
  induction L with
  | nil => intro j g0; trivial
  | cons x xs ih =>
    intro j g0
    refine ⟨?_, ih (j + 1) (xup g0 j x)⟩
    show wrl (xup g0 j x) (j + 1) xs j = x
    rw [wrl_out (by omega), xup_same]
theorem rdl_app {g : Int → Int} : ∀ (L1 L2 : List Int) (j : Int), rdl g j (L1 ++ L2) → rdl g j L1 ∧ rdl g (j + (L1.length : Int)) L2 := by
  intro L1
  induction L1 with
  | nil => intro L2 j h; refine ⟨trivial, ?_⟩; show rdl g (j + ((0 : Nat) : Int)) L2; rw [show j + ((0 : Nat) : Int) = j by omega]; exact h
  | cons x xs ih =>
    intro L2 j h
    have h2 := ih L2 (j + 1) h.2
    refine ⟨⟨h.1, h2.1⟩, ?_⟩
    rw [List.length_cons, show j + ((xs.length + 1 : Nat) : Int) = j + 1 + (xs.length : Int) by omega]
    exact h2.2
/-- a clause at an index, its sum from o on -/
def CLN (cl : Int → Int) (at_ o : Int) (S E : List Int) : Prop := cl at_ = o ∧ cl (at_ + 1) = o + (S.length : Int) ∧ (E = [] → cl (at_ + 2) = -1) ∧ (E ≠ [] → cl (at_ + 2) = o + (S.length : Int)) ∧ cl (at_ + 3) = o + (S.length : Int) + (E.length : Int)
def CLD (g cl : Int → Int) (t : Int) : List (List Int × List Int) → Int → Int → Int → Prop
  | [], _, o, z => o = z
  | (S, E) :: M, i, o, z => CLN cl (48 * t + 4 * i) o S E ∧ rdl g (400 * t + o) (S ++ E) ∧ CLD g cl t M (i + 1) (o + (S.length : Int) + (E.length : Int)) z
theorem CLD.le {g cl : Int → Int} {t : Int} : ∀ (M : List (List Int × List Int)) (i o z : Int), CLD g cl t M i o z → o ≤ z := by
  intro M
  induction M with
  | nil => intro i o z h; have h2 : o = z := h; omega
  | cons x M ih =>
    intro i o z h
    obtain ⟨S, E⟩ := x
    have := ih _ _ _ h.2.2
    omega
theorem CLD.fr {g cl g2 cl2 : Int → Int} {t : Int} : ∀ (M : List (List Int × List Int)) (i o z : Int), CLD g cl t M i o z → (∀ j, 400 * t + o ≤ j → j < 400 * t + z → g2 j = g j) → (∀ j, 48 * t + 4 * i ≤ j → j < 48 * t + 4 * (i + (M.length : Int)) → cl2 j = cl j) → CLD g2 cl2 t M i o z := by
  intro M
  induction M with
  | nil => intro i o z h _ _; exact h
  | cons x M ih =>
    intro i o z h hg hc
    obtain ⟨S, E⟩ := x
    have hle := CLD.le M _ _ _ h.2.2
    rw [List.length_cons] at hc
    obtain ⟨⟨c0, c1, c2, c3, c4⟩, h2, h3⟩ := h
    refine ⟨⟨?_, ?_, fun r => ?_, fun r => ?_, ?_⟩, rdl_fr _ _ h2 (fun j j0 j1 => hg j (by omega) (by rw [List.length_append] at j1; omega)), ih _ _ _ h3 (fun j j0 j1 => hg j (by omega) (by omega)) (fun j j0 j1 => hc j (by omega) (by omega))⟩
    · rw [hc _ (by omega) (by omega)]; exact c0
    · rw [hc _ (by omega) (by omega)]; exact c1
    · rw [hc _ (by omega) (by omega)]; exact c2 r
    · rw [hc _ (by omega) (by omega)]; exact c3 r
    · rw [hc _ (by omega) (by omega)]; exact c4
theorem CLD.snoc {g cl : Int → Int} {t : Int} {S E : List Int} : ∀ (M : List (List Int × List Int)) (i o z : Int), CLD g cl t M i o z → CLN cl (48 * t + 4 * (i + (M.length : Int))) z S E → rdl g (400 * t + z) (S ++ E) → CLD g cl t (M ++ [(S, E)]) i o (z + (S.length : Int) + (E.length : Int)) := by
  intro M
  induction M with
  | nil =>
    intro i o z h hn hr
    have h2 : o = z := h
    subst h2
    refine ⟨?_, hr, rfl⟩
    have e : (48 * t + 4 * (i + ((([] : List (List Int × List Int)).length : Nat) : Int))) = 48 * t + 4 * i := by show 48 * t + 4 * (i + ((0 : Nat) : Int)) = _; omega
    rw [e] at hn
    exact hn
  | cons x M ih =>
    intro i o z h hn hr
    obtain ⟨S1, E1⟩ := x
    refine ⟨h.1, h.2.1, ih _ _ _ h.2.2 ?_ hr⟩
    rw [List.length_cons] at hn
    rw [show i + 1 + (M.length : Int) = i + ((M.length + 1 : Nat) : Int) by omega]
    exact hn
theorem RB_up {cl : Int → Int} {a v : Int} (h : RB cl) (h0 : -2147483648 ≤ v) (h1 : v ≤ 2147483647) : RB (xup cl a v) := by
  intro j
  by_cases c : j = a
  · subst c; rw [xup_same]; exact ⟨h0, h1⟩
  · rw [xup_ne _ _ c]; exact h j
section
variable {b T T1 T2 g g1 g2 l l1 l2 cl cl2 cn cn2 : Int → Int} {e e1 e2 S E : List Int}
/-- a clause was read: at is its place among the clauses -/
def TKR (b T T2 g g2 l l2 cl cl2 cn cn2 : Int → Int) (S E : List Int) : Prop := RFr T T2 g g2 l l2 ∧ (0 ≤ T2 9 ∧ T2 9 ≤ 10000) ∧ (∀ j, ¬ (48 * T 11 + 4 * cn (T 11) ≤ j ∧ j < 48 * T 11 + 4 * cn (T 11) + 4) → cl2 j = cl j) ∧ (RB cl → RB cl2) ∧ (T2 9 = 0 → RK b T2 l2 ∧ sk b (T 1) (T2 8) = T2 8 ∧ T 8 < T2 8 ∧ WR T g g2 l l2 (S ++ E) ∧ CLN cl2 (48 * T 11 + 4 * cn (T 11)) (l (T 11)) S E ∧ cn2 = xup cn (T 11) (cn (T 11) + 1) ∧ ∀ M, Q b (T 1) (0, -1, -1, 0, 0, le_ b (T 1) (T 8), T 12, [], [], [], M) (6, -1, -1, 0, 0, T2 8, T2 12, [], [], [], M ++ [(S, E)])) ∧ (¬ T2 9 = 0 → cn2 = cn ∧ ∀ M, Q b (T 1) (0, -1, -1, 0, 0, le_ b (T 1) (T 8), T 12, [], [], [], M) (sX (T2 9)))
theorem RFr.le {p : Int} (h : RFr (xup T 8 p) T2 g g2 l l2) : RFr T T2 g g2 l l2 := ⟨fun j hj => (h.1 j hj).trans (xup_ne _ _ (by omega)), h.2.1, h.2.2⟩
theorem TKR.f1 {a : Int} {C : Int → Int} (h : SUMP b (xup T 8 (le_ b (T 1) (T 8))) T2 g g2 l l2 e) (h0 : ¬ T2 9 = 0) (ha : a = 48 * T 11 + 4 * cn (T 11)) (hC : ∀ j, ¬ (a ≤ j ∧ j < a + 4) → C j = cl j) (hB : RB cl → RB C) : TKR b T T2 g g2 l l2 cl C cn cn [] [] := by
  subst ha
  exact ⟨h.1.le, h.2.1, hC, hB, fun r => absurd r h0, fun _ => ⟨rfl, fun M => h.2.2.2 h0 0 0 [] [] [] M⟩⟩
theorem TKR.f2 {a : Int} {C : Int → Int} (h : SUMP b (xup T 8 (le_ b (T 1) (T 8))) T1 g g1 l l1 e) (h0 : T1 9 = 0) (hw : tw b (T1 1) (T1 8) = 14) (h2 : TSP b (xup T1 8 (le_ b (T1 1) (T1 8))) T2 g1 g2 l1 l2 e2) (h02 : ¬ T2 9 = 0) (ha : a = 48 * T 11 + 4 * cn (T 11)) (hC : ∀ j, ¬ (a ≤ j ∧ j < a + 4) → C j = cl j) (hB : RB cl → RB C) : TKR b T T2 g g2 l l2 cl C cn cn [] [] := by
  subst ha
  have e1' : T1 1 = T 1 := h.1.1 1 (by omega)
  obtain ⟨p1, p2, p3, p4, p5⟩ := h.2.2.1 h0
  refine ⟨h.1.le.tr h2.1.le, h2.2.1, hC, hB, fun r => absurd r h02, fun _ => ⟨rfl, fun M => ?_⟩⟩
  have q1 : Q b (T 1) (0, -1, -1, 0, 0, le_ b (T 1) (T 8), T 12, [], [], [], M) (3, -1, -1, 0, 0, T1 8, T1 12, [], e, [], M) := p5 0 0 [] [] [] M
  have q3 : Q b (T1 1) (4, -1, -1, 0, 0, le_ b (T1 1) (T1 8), T1 12, [], [], e, M) (sX (T2 9)) := h2.2.2.2 h02 e M
  rw [e1'] at q3 hw
  exact q1.tr ((q30i hw).tr q3)
theorem TKR.o1 {a z : Int} (hk : RK b T l) (h : SUMP b (xup T 8 (le_ b (T 1) (T 8))) T1 g g1 l l1 e) (h0 : T1 9 = 0) (hw : ¬ tw b (T1 1) (T1 8) = 14) (ha : a = 48 * T 11 + 4 * cn (T 11)) (hz : z = T1 8) : TKR b T (xup T1 8 z) g g1 l l1 cl (xup (xup (xup (xup cl a (l (T 11))) (a + 1) (l1 (T1 11))) (a + 2) (-1)) (a + 3) (l1 (T1 11))) cn (xup cn (T1 11) (cn (T1 11) + 1)) e [] := by
  subst ha
  subst hz
  have e1' : T1 1 = T 1 := h.1.1 1 (by omega)
  have e11 : T1 11 = T 11 := h.1.1 11 (by omega)
  obtain ⟨p1, p2, p3, p4, p5⟩ := h.2.2.1 h0
  obtain ⟨a1, a2, a3, a4, a5, a6, a7, a8⟩ := p1
  have a8' : l1 (T 11) = l (T 11) + (e.length : Int) := a8
  have a7' : g1 = wrl g (400 * T 11 + l (T 11)) e := a7
  have p3' : le_ b (T 1) (T 8) < T1 8 := p3
  have hle := (le_all (b := b) (n := T 1) (p := T 8)).1.1
  have k6 := hk.2.2.2.2.2.1
  have k8 := hk.2.1
  have k1 := hk.1.1
  have m6 := a3.2.2.2.2.2.1
  have m8 := a3.2.1
  have m1 := a3.1.1
  rw [e11] at m6
  rw [xup_self, e11]
  refine ⟨h.1.le, by omega, fun j hj => by rw [xup_ne _ _ (by omega), xup_ne _ _ (by omega), xup_ne _ _ (by omega), xup_ne _ _ (by omega)], fun r => RB_up (RB_up (RB_up (RB_up r (by omega) (by omega)) (by omega) (by omega)) (by omega) (by omega)) (by omega) (by omega), fun _ => ⟨a3, p2, by omega, ⟨by rw [List.append_nil]; exact a7', by rw [List.append_nil]; exact a8'⟩, ⟨?_, ?_, fun _ => ?_, fun r => absurd rfl r, ?_⟩, rfl, fun M => ?_⟩, fun r => absurd h0 r⟩
  · rw [xup_ne _ _ (by omega), xup_ne _ _ (by omega), xup_ne _ _ (by omega), xup_same]
  · rw [xup_ne _ _ (by omega), xup_ne _ _ (by omega), xup_same]; exact a8'
  · rw [xup_ne _ _ (by omega), xup_same]
  · rw [xup_same, a8']; show _ = _ + ((0 : Nat) : Int); omega
  · have q1 : Q b (T 1) (0, -1, -1, 0, 0, le_ b (T 1) (T 8), T 12, [], [], [], M) (3, -1, -1, 0, 0, T1 8, T1 12, [], e, [], M) := p5 0 0 [] [] [] M
    rw [e1'] at hw
    exact q1.tr (q30n hw)
theorem TKR.o2 {a : Int} (hk : RK b T l) (h : SUMP b (xup T 8 (le_ b (T 1) (T 8))) T1 g g1 l l1 e) (h0 : T1 9 = 0) (hw : tw b (T1 1) (T1 8) = 14) (h2 : TSP b (xup T1 8 (le_ b (T1 1) (T1 8))) T2 g1 g2 l1 l2 e2) (h02 : T2 9 = 0) (ha : a = 48 * T 11 + 4 * cn (T 11)) : TKR b T T2 g g2 l l2 cl (xup (xup (xup (xup cl a (l (T 11))) (a + 1) (l1 (T1 11))) (a + 2) (l1 (T1 11))) (a + 3) (l2 (T2 11))) cn (xup cn (T2 11) (cn (T2 11) + 1)) e e2 := by
  subst ha
  have e1' : T1 1 = T 1 := h.1.1 1 (by omega)
  have e11 : T1 11 = T 11 := h.1.1 11 (by omega)
  have e11' : T2 11 = T1 11 := h2.1.1 11 (by omega)
  obtain ⟨p1, p2, p3, p4, p5⟩ := h.2.2.1 h0
  obtain ⟨a1, a2, a3, a4, a5, a6, a7, a8⟩ := p1
  have w1 : WR T g g1 l l1 e := ⟨a7, a8⟩
  obtain ⟨t1, t2, t3, ⟨t4, t5⟩, t6⟩ := h2.2.2.1 h02
  have w2 : WR T1 g1 g2 l1 l2 e2 := t4
  have w3 := w1.tr w2 e11
  have w1b := w1.2
  have w2b := w2.2
  have w3b := w3.2
  have p3' : le_ b (T 1) (T 8) < T1 8 := p3
  have t3' : le_ b (T1 1) (T1 8) < T2 8 := t3
  have hle := (le_all (b := b) (n := T 1) (p := T 8)).1.1
  have hle2 := (le_all (b := b) (n := T1 1) (p := T1 8)).1.1
  have t2' : sk b (T1 1) (T2 8) = T2 8 := t2
  have k6 := hk.2.2.2.2.2.1
  have k8 := hk.2.1
  have k1 := hk.1.1
  have m6 := a3.2.2.2.2.2.1
  have m8 := a3.2.1
  have m1 := a3.1.1
  have n6 := t1.2.2.2.2.2.1
  have n8 := t1.2.1
  have n1 := t1.1.1
  rw [e11', e11] at n6
  rw [e11] at m6 w2b
  rw [e11', e11]
  rw [List.length_append] at w3b
  refine ⟨h.1.le.tr h2.1.le, by omega, fun j hj => by rw [xup_ne _ _ (by omega), xup_ne _ _ (by omega), xup_ne _ _ (by omega), xup_ne _ _ (by omega)], fun r => RB_up (RB_up (RB_up (RB_up r (by omega) (by omega)) (by omega) (by omega)) (by omega) (by omega)) (by omega) (by omega), fun _ => ⟨t1, by rw [← e1']; exact t2', by omega, w3, ⟨?_, ?_, fun r => absurd r t5, fun _ => ?_, ?_⟩, rfl, fun M => ?_⟩, fun r => absurd h02 r⟩
  · rw [xup_ne _ _ (by omega), xup_ne _ _ (by omega), xup_ne _ _ (by omega), xup_same]
  · rw [xup_ne _ _ (by omega), xup_ne _ _ (by omega), xup_same]; exact w1b
  · rw [xup_ne _ _ (by omega), xup_same]; exact w1b
  · rw [xup_same, w3b]; omega
  · have q1 : Q b (T 1) (0, -1, -1, 0, 0, le_ b (T 1) (T 8), T 12, [], [], [], M) (3, -1, -1, 0, 0, T1 8, T1 12, [], e, [], M) := p5 0 0 [] [] [] M
    have q3 : Q b (T1 1) (4, -1, -1, 0, 0, le_ b (T1 1) (T1 8), T1 12, [], [], e, M) (6, -1, -1, 0, 0, T2 8, T2 12, [], [], [], M ++ [(e, e2)]) := t6 e M
    rw [e1'] at q3 hw
    exact q1.tr ((q30i hw).tr q3)
end
set_option maxRecDepth 8000 in
theorem sg_175_0_r {d : Nat} {I : XI} {L : XL} {D : GD} {post : XQ}   (h : xR d 175 es_175 1 [xr (some 101), xt 0] [xr (some 101)] I L (gG D) 0 0 post) : xR d 175 es_175 0 [xr (some 101), xt 0] [] I L (gG D) 0 0 post := xW_R (fun k => Nat.beq k 1 || Nat.beq k 25 || Nat.beq k 49 || Nat.beq k 63) 1 _ _ _ _ _ _ _ _ _ _ _ _ h
set_option maxRecDepth 8000 in
theorem sg_175_2_r {d : Nat} {I : XI} {L : XL} {D : GD} {post : XQ}   (h : ((0 ≤ (I 101 (11 : Int)) ∧ (I 101 (11 : Int)) < (6 : Int)) ∧ ((0 ≤ (I 101 (11 : Int)) ∧ (I 101 (11 : Int)) < (7 : Int)) ∧ ((0 ≤ (((48 : Int) * (I 101 (11 : Int))) + ((4 : Int) * (I 106 (I 101 (11 : Int))))) ∧ (((48 : Int) * (I 101 (11 : Int))) + ((4 : Int) * (I 106 (I 101 (11 : Int))))) < (288 : Int)) ∧ xR d 175 es_175 25 [xr (some 101), xi (((48 : Int) * (I 101 (11 : Int))) + ((4 : Int) * (I 106 (I 101 (11 : Int)))))] [xr (some 101)] (xwr I 105 (((48 : Int) * (I 101 (11 : Int))) + ((4 : Int) * (I 106 (I 101 (11 : Int))))) (I 104 (I 101 (11 : Int)))) L (gG D) 0 0 post)))) : xR d 175 es_175 2 [xr (some 101), xt 0] [] I L (gG D) 0 0 post := xW_R (fun k => Nat.beq k 1 || Nat.beq k 25 || Nat.beq k 49 || Nat.beq k 63) 23 _ _ _ _ _ _ _ _ _ _ _ _ h
set_option maxRecDepth 8000 in
theorem sg_175_26_r {d : Nat} {I : XI} {L : XL} {D : GD} {post : XQ}  {u1 : Int} {w0 : Int} (h : ((-2147483648 ≤ w0 ∧ w0 ≤ 2147483647) ∧ ((¬ w0 = 0 → ((0 ≤ (I 101 (11 : Int)) ∧ (I 101 (11 : Int)) < (7 : Int)) ∧ ((0 ≤ (u1 + (1 : Int)) ∧ (u1 + (1 : Int)) < (288 : Int)) ∧ ((0 ≤ (u1 + (2 : Int)) ∧ (u1 + (2 : Int)) < (288 : Int)) ∧ xR d 175 es_175 49 [xr (some 101), xi u1] [xl (Int64.ofInt 26982), xr (some 101)] (xwr (xwr I 105 (u1 + (1 : Int)) (I 104 (I 101 (11 : Int)))) 105 (u1 + (2 : Int)) (-1 : Int)) L (gG D) 0 0 post)))) ∧ (w0 = 0 → (((0 : Int) = 0 ∨ (0 : Int) = 1) ∧ post (some (xi (0 : Int))) I L (gG D)))))) : xR d 175 es_175 26 [xr (some 101), xi u1] [xi w0] I L (gG D) 0 0 post := xW_R (fun k => Nat.beq k 1 || Nat.beq k 25 || Nat.beq k 49 || Nat.beq k 63) 21 _ _ _ _ _ _ _ _ _ _ _ _ h
set_option maxRecDepth 8000 in
theorem sg_175_50_r {d : Nat} {I : XI} {L : XL} {D : GD} {post : XQ}  {u1 : Int} {w0 : Int} (h : ((-2147483648 ≤ w0 ∧ w0 ≤ 2147483647) ∧ ((w0 = 0 → ((0 ≤ (I 101 (11 : Int)) ∧ (I 101 (11 : Int)) < (7 : Int)) ∧ ((0 ≤ (u1 + (3 : Int)) ∧ (u1 + (3 : Int)) < (288 : Int)) ∧ ((0 ≤ (I 101 (11 : Int)) ∧ (I 101 (11 : Int)) < (6 : Int)) ∧ ((0 ≤ (I 101 (11 : Int)) ∧ (I 101 (11 : Int)) < (6 : Int)) ∧ (((1 : Int) = 0 ∨ (1 : Int) = 1) ∧ post (some (xi (1 : Int))) (xwr (xwr I 105 (u1 + (3 : Int)) (I 104 (I 101 (11 : Int)))) 106 (I 101 (11 : Int)) ((I 106 (I 101 (11 : Int))) + (1 : Int))) L (gG D))))))) ∧ (¬ w0 = 0 → ((0 ≤ (I 101 (11 : Int)) ∧ (I 101 (11 : Int)) < (7 : Int)) ∧ ((0 ≤ (u1 + (2 : Int)) ∧ (u1 + (2 : Int)) < (288 : Int)) ∧ xR d 175 es_175 63 [xr (some 101), xi u1] [xr (some 101)] (xwr I 105 (u1 + (2 : Int)) (I 104 (I 101 (11 : Int)))) L (gG D) 0 0 post)))))) : xR d 175 es_175 50 [xr (some 101), xi u1] [xi w0] I L (gG D) 0 0 post := xW_R (fun k => Nat.beq k 1 || Nat.beq k 25 || Nat.beq k 49 || Nat.beq k 63) 23 _ _ _ _ _ _ _ _ _ _ _ _ h
set_option maxRecDepth 8000 in
theorem sg_175_64_r {d : Nat} {I : XI} {L : XL} {D : GD} {post : XQ}  {u1 : Int} {w0 : Int} (h : ((-2147483648 ≤ w0 ∧ w0 ≤ 2147483647) ∧ ((¬ w0 = 0 → ((0 ≤ (I 101 (11 : Int)) ∧ (I 101 (11 : Int)) < (7 : Int)) ∧ ((0 ≤ (u1 + (3 : Int)) ∧ (u1 + (3 : Int)) < (288 : Int)) ∧ ((0 ≤ (I 101 (11 : Int)) ∧ (I 101 (11 : Int)) < (6 : Int)) ∧ ((0 ≤ (I 101 (11 : Int)) ∧ (I 101 (11 : Int)) < (6 : Int)) ∧ (((1 : Int) = 0 ∨ (1 : Int) = 1) ∧ post (some (xi (1 : Int))) (xwr (xwr I 105 (u1 + (3 : Int)) (I 104 (I 101 (11 : Int)))) 106 (I 101 (11 : Int)) ((I 106 (I 101 (11 : Int))) + (1 : Int))) L (gG D))))))) ∧ (w0 = 0 → (((0 : Int) = 0 ∨ (0 : Int) = 1) ∧ post (some (xi (0 : Int))) I L (gG D)))))) : xR d 175 es_175 64 [xr (some 101), xi u1] [xi w0] I L (gG D) 0 0 post := xW_R (fun k => Nat.beq k 1 || Nat.beq k 25 || Nat.beq k 49 || Nat.beq k 63) 23 _ _ _ _ _ _ _ _ _ _ _ _ h
set_option maxRecDepth 8000 in
theorem w_175_r {d : Nat} {I : XI} {L : XL} {D : GD} {post : XQ}    (hd : 9 ≤ d) (h : ((TPO (I 102) (I 101 (1 : Int)) ∧ (0 ≤ I 101 (8 : Int) ∧ I 101 (8 : Int) ≤ I 101 (1 : Int))) ∧ (((0 ≤ (I 101 (11 : Int)) ∧ (I 101 (11 : Int)) < (6 : Int))) ∧ (((0 ≤ (I 101 (11 : Int)) ∧ (I 101 (11 : Int)) < (7 : Int))) ∧ (((0 ≤ (((48 : Int) * (I 101 (11 : Int))) + ((4 : Int) * (I 106 (I 101 (11 : Int))))) ∧ (((48 : Int) * (I 101 (11 : Int))) + ((4 : Int) * (I 106 (I 101 (11 : Int))))) < (288 : Int))) ∧ (RK (I 102) (xup (I 101) (8 : Int) (le_ (I 102) (I 101 (1 : Int)) (I 101 (8 : Int)))) (I 104) ∧ (∀ (e4830 : Int → Int) (e4831 : Int → Int) (e4832 : Int → Int) (e4833 : List Int), (SUMP (I 102) (xup (I 101) (8 : Int) (le_ (I 102) (I 101 (1 : Int)) (I 101 (8 : Int)))) e4830 (I 103) e4831 (I 104) e4832 e4833 → (((e4830 9 = 0 → (((0 ≤ (e4830 (11 : Int)) ∧ (e4830 (11 : Int)) < (7 : Int))) ∧ (((0 ≤ ((((48 : Int) * (I 101 (11 : Int))) + ((4 : Int) * (I 106 (I 101 (11 : Int))))) + (1 : Int)) ∧ ((((48 : Int) * (I 101 (11 : Int))) + ((4 : Int) * (I 106 (I 101 (11 : Int))))) + (1 : Int)) < (288 : Int))) ∧ (((0 ≤ ((((48 : Int) * (I 101 (11 : Int))) + ((4 : Int) * (I 106 (I 101 (11 : Int))))) + (2 : Int)) ∧ ((((48 : Int) * (I 101 (11 : Int))) + ((4 : Int) * (I 106 (I 101 (11 : Int))))) + (2 : Int)) < (288 : Int))) ∧ (((TPO (I 102) (e4830 (1 : Int)) ∧ (0 ≤ e4830 (8 : Int) ∧ e4830 (8 : Int) ≤ e4830 (1 : Int))) ∧ (sk (I 102) (e4830 (1 : Int)) (e4830 (8 : Int))) = e4830 (8 : Int)) ∧ (((¬ (twd (I 102) (e4830 (1 : Int)) (e4830 (8 : Int)) (Int64.ofInt 26982) = true) → (((0 ≤ ((((48 : Int) * (I 101 (11 : Int))) + ((4 : Int) * (I 106 (I 101 (11 : Int))))) + (3 : Int)) ∧ ((((48 : Int) * (I 101 (11 : Int))) + ((4 : Int) * (I 106 (I 101 (11 : Int))))) + (3 : Int)) < (288 : Int))) ∧ (((0 ≤ (e4830 (11 : Int)) ∧ (e4830 (11 : Int)) < (6 : Int))) ∧ post (some (xi (1 : Int))) (xsc (xsc (xsc (xsc (xsc I 101 (xup e4830 (8 : Int) (if twd (I 102) (e4830 (1 : Int)) (e4830 (8 : Int)) (Int64.ofInt 26982) = true then (le_ (I 102) (e4830 (1 : Int)) (e4830 (8 : Int))) else e4830 (8 : Int)))) 103 e4831) 104 e4832) 105 (xup (xup (xup (xup (I 105) (((48 : Int) * (I 101 (11 : Int))) + ((4 : Int) * (I 106 (I 101 (11 : Int))))) (I 104 (I 101 (11 : Int)))) ((((48 : Int) * (I 101 (11 : Int))) + ((4 : Int) * (I 106 (I 101 (11 : Int))))) + (1 : Int)) (e4832 (e4830 (11 : Int)))) ((((48 : Int) * (I 101 (11 : Int))) + ((4 : Int) * (I 106 (I 101 (11 : Int))))) + (2 : Int)) (-1 : Int)) ((((48 : Int) * (I 101 (11 : Int))) + ((4 : Int) * (I 106 (I 101 (11 : Int))))) + (3 : Int)) (e4832 (e4830 (11 : Int))))) 106 (xup (I 106) (e4830 (11 : Int)) ((I 106 (e4830 (11 : Int))) + (1 : Int)))) L (gG D)))) ∧ (twd (I 102) (e4830 (1 : Int)) (e4830 (8 : Int)) (Int64.ofInt 26982) = true → (RK (I 102) (xup e4830 (8 : Int) (if twd (I 102) (e4830 (1 : Int)) (e4830 (8 : Int)) (Int64.ofInt 26982) = true then (le_ (I 102) (e4830 (1 : Int)) (e4830 (8 : Int))) else e4830 (8 : Int))) e4832 ∧ (∀ (e4834 : Int → Int) (e4835 : Int → Int) (e4836 : Int → Int) (e4837 : Int → Int) (e4838 : List Int), (TSP (I 102) (xup e4830 (8 : Int) (if twd (I 102) (e4830 (1 : Int)) (e4830 (8 : Int)) (Int64.ofInt 26982) = true then (le_ (I 102) (e4830 (1 : Int)) (e4830 (8 : Int))) else e4830 (8 : Int))) e4834 e4831 e4835 e4832 e4836 e4838 → (((e4834 9 = 0 → (((0 ≤ (e4834 (11 : Int)) ∧ (e4834 (11 : Int)) < (7 : Int))) ∧ (((0 ≤ ((((48 : Int) * (I 101 (11 : Int))) + ((4 : Int) * (I 106 (I 101 (11 : Int))))) + (3 : Int)) ∧ ((((48 : Int) * (I 101 (11 : Int))) + ((4 : Int) * (I 106 (I 101 (11 : Int))))) + (3 : Int)) < (288 : Int))) ∧ (((0 ≤ (e4834 (11 : Int)) ∧ (e4834 (11 : Int)) < (6 : Int))) ∧ post (some (xi (1 : Int))) (xsc (xsc (xsc (xsc (xsc (xsc I 101 e4834) 103 e4835) 104 e4836) 105 (xup (xup (xup (xup (I 105) (((48 : Int) * (I 101 (11 : Int))) + ((4 : Int) * (I 106 (I 101 (11 : Int))))) (I 104 (I 101 (11 : Int)))) ((((48 : Int) * (I 101 (11 : Int))) + ((4 : Int) * (I 106 (I 101 (11 : Int))))) + (1 : Int)) (e4832 (e4830 (11 : Int)))) ((((48 : Int) * (I 101 (11 : Int))) + ((4 : Int) * (I 106 (I 101 (11 : Int))))) + (2 : Int)) (e4832 (e4830 (11 : Int)))) ((((48 : Int) * (I 101 (11 : Int))) + ((4 : Int) * (I 106 (I 101 (11 : Int))))) + (3 : Int)) (e4836 (e4834 (11 : Int))))) 106 (xup (I 106) (e4834 (11 : Int)) ((I 106 (e4834 (11 : Int))) + (1 : Int)))) 108 e4837) L (gG D))))) ∧ (¬ (e4834 9 = 0) → post (some (xi (0 : Int))) (xsc (xsc (xsc (xsc (xsc I 101 e4834) 103 e4835) 104 e4836) 105 (xup (xup (xup (I 105) (((48 : Int) * (I 101 (11 : Int))) + ((4 : Int) * (I 106 (I 101 (11 : Int))))) (I 104 (I 101 (11 : Int)))) ((((48 : Int) * (I 101 (11 : Int))) + ((4 : Int) * (I 106 (I 101 (11 : Int))))) + (1 : Int)) (e4832 (e4830 (11 : Int)))) ((((48 : Int) * (I 101 (11 : Int))) + ((4 : Int) * (I 106 (I 101 (11 : Int))))) + (2 : Int)) (e4832 (e4830 (11 : Int))))) 108 e4837) L (gG D))))))))))))))) ∧ (¬ (e4830 9 = 0) → post (some (xi (0 : Int))) (xsc (xsc (xsc (xsc I 101 e4830) 103 e4831) 104 e4832) 105 (xup (I 105) (((48 : Int) * (I 101 (11 : Int))) + ((4 : Int) * (I 106 (I 101 (11 : Int))))) (I 104 (I 101 (11 : Int))))) L (gG D)))))))))))) : xR d 175 es_175 0 [xr (some 101), xt 0] [] I L (gG D) 0 0 post := sg_175_0_r  ((xR_cF rfl rfl rfl (c_158 h.1) (by omega) (sg_175_2_r  ⟨h.2.1, ⟨h.2.2.1, ⟨h.2.2.2.1, (xR_cQ rfl rfl rfl (c_169_r h.2.2.2.2.1) (by omega) (fun _ _ _ _ hx4845 => by obtain ⟨e4830, e4831, e4832, e4833, hp4846, rfl, rfl, rfl, rfl⟩ := hx4845; exact (sg_175_26_r  ⟨(xb_rg _), ⟨fun q4843 => ⟨((h.2.2.2.2.2 e4830 e4831 e4832 e4833 hp4846).1 (xb_n0 q4843)).1, ⟨((h.2.2.2.2.2 e4830 e4831 e4832 e4833 hp4846).1 (xb_n0 q4843)).2.1, ⟨((h.2.2.2.2.2 e4830 e4831 e4832 e4833 hp4846).1 (xb_n0 q4843)).2.2.1, (xR_cF rfl rfl rfl (c_159_r ((h.2.2.2.2.2 e4830 e4831 e4832 e4833 hp4846).1 (xb_n0 q4843)).2.2.2.1) (by omega) (sg_175_50_r  ⟨(xb_rg _), ⟨fun q4841 => ⟨((h.2.2.2.2.2 e4830 e4831 e4832 e4833 hp4846).1 (xb_n0 q4843)).1, ⟨(((h.2.2.2.2.2 e4830 e4831 e4832 e4833 hp4846).1 (xb_n0 q4843)).2.2.2.2.1 (xb_0 q4841)).1, ⟨(((h.2.2.2.2.2 e4830 e4831 e4832 e4833 hp4846).1 (xb_n0 q4843)).2.2.2.2.1 (xb_0 q4841)).2.1, ⟨(((h.2.2.2.2.2 e4830 e4831 e4832 e4833 hp4846).1 (xb_n0 q4843)).2.2.2.2.1 (xb_0 q4841)).2.1, ⟨(by decide), (xpost (((h.2.2.2.2.2 e4830 e4831 e4832 e4833 hp4846).1 (xb_n0 q4843)).2.2.2.2.1 (xb_0 q4841)).2.2 (funext fun i => (xpt rfl (fun h106_ => (xpt rfl (fun h105_ => (xpt rfl (fun h104_ => (xpt rfl (fun h103_ => (xpt rfl (fun h101_ => (by simp only [xsc_ne _ _ h101_, xwr_ne _ _ _ h101_, xsc_ne _ _ h103_, xwr_ne _ _ _ h103_, xsc_ne _ _ h104_, xwr_ne _ _ _ h104_, xsc_ne _ _ h105_, xwr_ne _ _ _ h105_, xsc_ne _ _ h106_, xwr_ne _ _ _ h106_])))))))))))) rfl)⟩⟩⟩⟩⟩, fun q4842 => ⟨((h.2.2.2.2.2 e4830 e4831 e4832 e4833 hp4846).1 (xb_n0 q4843)).1, ⟨((h.2.2.2.2.2 e4830 e4831 e4832 e4833 hp4846).1 (xb_n0 q4843)).2.2.1, (xR_cQ rfl rfl rfl (c_174_r (((h.2.2.2.2.2 e4830 e4831 e4832 e4833 hp4846).1 (xb_n0 q4843)).2.2.2.2.2 (xb_n0 q4842)).1) (by omega) (fun _ _ _ _ hx4847 => by obtain ⟨e4834, e4835, e4836, e4837, e4838, hp4848, rfl, rfl, rfl, rfl⟩ := hx4847; exact (sg_175_64_r  ⟨(xb_rg _), ⟨fun q4839 => ⟨(((((h.2.2.2.2.2 e4830 e4831 e4832 e4833 hp4846).1 (xb_n0 q4843)).2.2.2.2.2 (xb_n0 q4842)).2 e4834 e4835 e4836 e4837 e4838 hp4848).1 (xb_n0 q4839)).1, ⟨(((((h.2.2.2.2.2 e4830 e4831 e4832 e4833 hp4846).1 (xb_n0 q4843)).2.2.2.2.2 (xb_n0 q4842)).2 e4834 e4835 e4836 e4837 e4838 hp4848).1 (xb_n0 q4839)).2.1, ⟨(((((h.2.2.2.2.2 e4830 e4831 e4832 e4833 hp4846).1 (xb_n0 q4843)).2.2.2.2.2 (xb_n0 q4842)).2 e4834 e4835 e4836 e4837 e4838 hp4848).1 (xb_n0 q4839)).2.2.1, ⟨(((((h.2.2.2.2.2 e4830 e4831 e4832 e4833 hp4846).1 (xb_n0 q4843)).2.2.2.2.2 (xb_n0 q4842)).2 e4834 e4835 e4836 e4837 e4838 hp4848).1 (xb_n0 q4839)).2.2.1, ⟨(by decide), (xpost (((((h.2.2.2.2.2 e4830 e4831 e4832 e4833 hp4846).1 (xb_n0 q4843)).2.2.2.2.2 (xb_n0 q4842)).2 e4834 e4835 e4836 e4837 e4838 hp4848).1 (xb_n0 q4839)).2.2.2 (funext fun i => (xpt rfl (fun h108_ => (xpt rfl (fun h106_ => (xpt (show (xup (xup (xup (xup (xup (I 105) (((48 : Int) * (I 101 (11 : Int))) + ((4 : Int) * (I 106 (I 101 (11 : Int))))) (I 104 (I 101 (11 : Int)))) ((((48 : Int) * (I 101 (11 : Int))) + ((4 : Int) * (I 106 (I 101 (11 : Int))))) + (1 : Int)) (e4832 (e4830 (11 : Int)))) ((((48 : Int) * (I 101 (11 : Int))) + ((4 : Int) * (I 106 (I 101 (11 : Int))))) + (2 : Int)) (-1 : Int)) ((((48 : Int) * (I 101 (11 : Int))) + ((4 : Int) * (I 106 (I 101 (11 : Int))))) + (2 : Int)) (e4832 (e4830 (11 : Int)))) ((((48 : Int) * (I 101 (11 : Int))) + ((4 : Int) * (I 106 (I 101 (11 : Int))))) + (3 : Int)) (e4836 (e4834 (11 : Int)))) = (xup (xup (xup (xup (I 105) (((48 : Int) * (I 101 (11 : Int))) + ((4 : Int) * (I 106 (I 101 (11 : Int))))) (I 104 (I 101 (11 : Int)))) ((((48 : Int) * (I 101 (11 : Int))) + ((4 : Int) * (I 106 (I 101 (11 : Int))))) + (1 : Int)) (e4832 (e4830 (11 : Int)))) ((((48 : Int) * (I 101 (11 : Int))) + ((4 : Int) * (I 106 (I 101 (11 : Int))))) + (2 : Int)) (e4832 (e4830 (11 : Int)))) ((((48 : Int) * (I 101 (11 : Int))) + ((4 : Int) * (I 106 (I 101 (11 : Int))))) + (3 : Int)) (e4836 (e4834 (11 : Int)))) from by funext j; simp only [xup]; (repeat' split) <;> first | rfl | omega) (fun h105_ => (xpt rfl (fun h104_ => (xpt rfl (fun h103_ => (xpt rfl (fun h101_ => (by simp only [xsc_ne _ _ h101_, xwr_ne _ _ _ h101_, xsc_ne _ _ h103_, xwr_ne _ _ _ h103_, xsc_ne _ _ h104_, xwr_ne _ _ _ h104_, xsc_ne _ _ h105_, xwr_ne _ _ _ h105_, xsc_ne _ _ h106_, xwr_ne _ _ _ h106_, xsc_ne _ _ h108_, xwr_ne _ _ _ h108_])))))))))))))) rfl)⟩⟩⟩⟩⟩, fun q4840 => ⟨(by decide), (xpost (((((h.2.2.2.2.2 e4830 e4831 e4832 e4833 hp4846).1 (xb_n0 q4843)).2.2.2.2.2 (xb_n0 q4842)).2 e4834 e4835 e4836 e4837 e4838 hp4848).2 (xb_0 q4840)) (funext fun i => (xpt rfl (fun h108_ => (xpt (show (xup (xup (xup (xup (I 105) (((48 : Int) * (I 101 (11 : Int))) + ((4 : Int) * (I 106 (I 101 (11 : Int))))) (I 104 (I 101 (11 : Int)))) ((((48 : Int) * (I 101 (11 : Int))) + ((4 : Int) * (I 106 (I 101 (11 : Int))))) + (1 : Int)) (e4832 (e4830 (11 : Int)))) ((((48 : Int) * (I 101 (11 : Int))) + ((4 : Int) * (I 106 (I 101 (11 : Int))))) + (2 : Int)) (-1 : Int)) ((((48 : Int) * (I 101 (11 : Int))) + ((4 : Int) * (I 106 (I 101 (11 : Int))))) + (2 : Int)) (e4832 (e4830 (11 : Int)))) = (xup (xup (xup (I 105) (((48 : Int) * (I 101 (11 : Int))) + ((4 : Int) * (I 106 (I 101 (11 : Int))))) (I 104 (I 101 (11 : Int)))) ((((48 : Int) * (I 101 (11 : Int))) + ((4 : Int) * (I 106 (I 101 (11 : Int))))) + (1 : Int)) (e4832 (e4830 (11 : Int)))) ((((48 : Int) * (I 101 (11 : Int))) + ((4 : Int) * (I 106 (I 101 (11 : Int))))) + (2 : Int)) (e4832 (e4830 (11 : Int)))) from by funext j; simp only [xup]; (repeat' split) <;> first | rfl | omega) (fun h105_ => (xpt rfl (fun h104_ => (xpt rfl (fun h103_ => (xpt rfl (fun h101_ => (by simp only [xsc_ne _ _ h101_, xwr_ne _ _ _ h101_, xsc_ne _ _ h103_, xwr_ne _ _ _ h103_, xsc_ne _ _ h104_, xwr_ne _ _ _ h104_, xsc_ne _ _ h105_, xwr_ne _ _ _ h105_, xsc_ne _ _ h108_, xwr_ne _ _ _ h108_])))))))))))) rfl)⟩⟩⟩)))⟩⟩⟩⟩))⟩⟩⟩, fun q4844 => ⟨(by decide), (xpost ((h.2.2.2.2.2 e4830 e4831 e4832 e4833 hp4846).2 (xb_0 q4844)) (funext fun i => (xpt rfl (fun h105_ => (xpt rfl (fun h104_ => (xpt rfl (fun h103_ => (xpt rfl (fun h101_ => (by simp only [xsc_ne _ _ h101_, xwr_ne _ _ _ h101_, xsc_ne _ _ h103_, xwr_ne _ _ _ h103_, xsc_ne _ _ h104_, xwr_ne _ _ _ h104_, xsc_ne _ _ h105_, xwr_ne _ _ _ h105_])))))))))) rfl)⟩⟩⟩)))⟩⟩⟩)))
theorem c_175_r {I : XI} {L : XL} {D : GD}    (h : (RK (I 102) (I 101) (I 104) ∧ (tw (I 102) (I 101 (1 : Int)) (I 101 (8 : Int))) = 13 ∧ (0 ≤ I 106 (I 101 (11 : Int)) ∧ I 106 (I 101 (11 : Int)) < 12))) : xM 9 175 [xr (some 101)] I L (gG D) (0, 0) (fun r2 I2 L2 G2 => ∃ (T9 : Int → Int) (g9 : Int → Int) (l9 : Int → Int) (c9 : Int → Int) (n9 : Int → Int) (R9 : Int → Int) (S9 : List Int) (E9 : List Int), TKR (I 102) (I 101) T9 (I 103) g9 (I 104) l9 (I 105) c9 (I 106) n9 S9 E9 ∧ r2 = (some (xi (xb (T9 9 = 0)))) ∧ I2 = (xsc (xsc (xsc (xsc (xsc (xsc I 101 T9) 103 g9) 104 l9) 105 c9) 106 n9) 108 R9) ∧ L2 = L ∧ G2 = (gG D)) := by
  intro d hd
  obtain ⟨hk, hw, hc⟩ := h
  have hT := hk.1
  have hT1 := hT.1
  have h8 := hk.2.1
  have h11 := hk.2.2.2.2.1
  have hl8 := hk.2.2.2.2.2.1
  have hlt := tw_lt0 (b := I 102) (n := I 101 1) (q := I 101 8) (by omega) h8.2
  have hk2 : RK (I 102) (xup (I 101) 8 (le_ (I 102) (I 101 1) (I 101 8))) (I 104) := ((PG.rf (g := I 103) hk).mv (p := le_ (I 102) (I 101 1) (I 101 8)) (by omega) hlt.2).2.2.1
  refine w_175_r (by omega) ?_
  simp only [twe_14]
  refine ⟨⟨hT, h8⟩, ⟨by omega, by omega⟩, ⟨by omega, by omega⟩, ⟨by omega, by omega⟩, hk2, fun T1 g1 l1 e1 hs => ⟨fun h0 => ?_, fun h0 => ?_⟩⟩
  rotate_left
  · exact ⟨_, _, _, xup (I 105) (48 * I 101 11 + 4 * I 106 (I 101 11)) (I 104 (I 101 11)), _, I 108, _, _, TKR.f1 (cl := I 105) (cn := I 106) (g := I 103) hs h0 rfl (fun j hj => by rw [xup_ne _ _ (by omega)]) (fun r => RB_up r (by omega) (by omega)), (congrArg (fun x => some (xi x)) (xb_f h0)).symm, by (funext i; by_cases h101 : i = 101; (subst h101; first | rfl | exact (xcp_zero _ _ _ _).symm | exact (xup_self _ _).symm | exact (xup_self2 _ _ _).symm | exact (xup_self3 _ _ _ _).symm | exact xup_self _ _); by_cases h103 : i = 103; (subst h103; first | rfl | exact (xcp_zero _ _ _ _).symm | exact (xup_self _ _).symm | exact (xup_self2 _ _ _).symm | exact (xup_self3 _ _ _ _).symm | exact xup_self _ _); by_cases h104 : i = 104; (subst h104; first | rfl | exact (xcp_zero _ _ _ _).symm | exact (xup_self _ _).symm | exact (xup_self2 _ _ _).symm | exact (xup_self3 _ _ _ _).symm | exact xup_self _ _); by_cases h105 : i = 105; (subst h105; first | rfl | exact (xcp_zero _ _ _ _).symm | exact (xup_self _ _).symm | exact (xup_self2 _ _ _).symm | exact (xup_self3 _ _ _ _).symm | exact xup_self _ _); by_cases h106 : i = 106; (subst h106; first | rfl | exact (xcp_zero _ _ _ _).symm | exact (xup_self _ _).symm | exact (xup_self2 _ _ _).symm | exact (xup_self3 _ _ _ _).symm | exact xup_self _ _); by_cases h108 : i = 108; (subst h108; first | rfl | exact (xcp_zero _ _ _ _).symm | exact (xup_self _ _).symm | exact (xup_self2 _ _ _).symm | exact (xup_self3 _ _ _ _).symm | exact xup_self _ _); first | rfl | simp only [xsc_ne _ _ h101, xsc_ne _ _ h103, xsc_ne _ _ h104, xsc_ne _ _ h105, xsc_ne _ _ h106, xsc_ne _ _ h108]), (by first | rfl | trivial), (by first | rfl | trivial)⟩
  have hh := hs.hd h0
  have e11 : T1 11 = I 101 11 := hs.1.1 11 (by omega)
  have m6 := (hs.2.2.1 h0).1.2.2.1.2.2.2.2.2.1
  have m1 := hh.1.1.1
  have m8 := hh.1.2
  refine ⟨⟨by omega, by omega⟩, ⟨by omega, by omega⟩, ⟨by omega, by omega⟩, ⟨hh.1, hh.2.2.1⟩, fun nw => ?_, fun yw => ?_⟩
  · rw [if_neg nw]
    refine ⟨⟨by omega, by omega⟩, ⟨by omega, by omega⟩, ?_⟩
    exact ⟨_, _, _, _, _, I 108, _, _, TKR.o1 (cl := I 105) (cn := I 106) (g := I 103) hk hs h0 nw rfl rfl, (congrArg (fun x => some (xi x)) (xb_t (show xup T1 8 (T1 8) 9 = 0 by rw [xup_self]; exact h0))).symm, by (funext i; by_cases h101 : i = 101; (subst h101; first | rfl | exact (xcp_zero _ _ _ _).symm | exact (xup_self _ _).symm | exact (xup_self2 _ _ _).symm | exact (xup_self3 _ _ _ _).symm | exact xup_self _ _); by_cases h103 : i = 103; (subst h103; first | rfl | exact (xcp_zero _ _ _ _).symm | exact (xup_self _ _).symm | exact (xup_self2 _ _ _).symm | exact (xup_self3 _ _ _ _).symm | exact xup_self _ _); by_cases h104 : i = 104; (subst h104; first | rfl | exact (xcp_zero _ _ _ _).symm | exact (xup_self _ _).symm | exact (xup_self2 _ _ _).symm | exact (xup_self3 _ _ _ _).symm | exact xup_self _ _); by_cases h105 : i = 105; (subst h105; first | rfl | exact (xcp_zero _ _ _ _).symm | exact (xup_self _ _).symm | exact (xup_self2 _ _ _).symm | exact (xup_self3 _ _ _ _).symm | exact xup_self _ _); by_cases h106 : i = 106; (subst h106; first | rfl | exact (xcp_zero _ _ _ _).symm | exact (xup_self _ _).symm | exact (xup_self2 _ _ _).symm | exact (xup_self3 _ _ _ _).symm | exact xup_self _ _); by_cases h108 : i = 108; (subst h108; first | rfl | exact (xcp_zero _ _ _ _).symm | exact (xup_self _ _).symm | exact (xup_self2 _ _ _).symm | exact (xup_self3 _ _ _ _).symm | exact xup_self _ _); first | rfl | simp only [xsc_ne _ _ h101, xsc_ne _ _ h103, xsc_ne _ _ h104, xsc_ne _ _ h105, xsc_ne _ _ h106, xsc_ne _ _ h108]), (by first | rfl | trivial), (by first | rfl | trivial)⟩
  · rw [if_pos yw]
    have hlt2 := tw_lt0 (b := I 102) (n := T1 1) (q := T1 8) (by omega) hh.1.2.2
    have hk3 : RK (I 102) (xup T1 8 (le_ (I 102) (T1 1) (T1 8))) l1 := ((hs.2.2.1 h0).1.mv (p := le_ (I 102) (T1 1) (T1 8)) (by omega) hlt2.2).2.2.1
    refine ⟨hk3, fun T2 g2 l2 R2 e2 ht => ⟨fun h02 => ?_, fun h02 => ?_⟩⟩
    · have e11' : T2 11 = T1 11 := ht.1.1 11 (by omega)
      refine ⟨⟨by omega, by omega⟩, ⟨by omega, by omega⟩, ⟨by omega, by omega⟩, ?_⟩
      exact ⟨_, _, _, _, _, R2, _, _, TKR.o2 (cl := I 105) (cn := I 106) (g := I 103) hk hs h0 yw ht h02 rfl, (congrArg (fun x => some (xi x)) (xb_t h02)).symm, rfl, (by first | rfl | trivial), (by first | rfl | trivial)⟩
    · exact ⟨_, _, _, xup (xup (xup (I 105) (48 * I 101 11 + 4 * I 106 (I 101 11)) (I 104 (I 101 11))) ((48 * I 101 11 + 4 * I 106 (I 101 11)) + 1) (l1 (T1 11))) ((48 * I 101 11 + 4 * I 106 (I 101 11)) + 2) (l1 (T1 11)), _, R2, _, _, TKR.f2 (cl := I 105) (cn := I 106) (g := I 103) hs h0 yw ht h02 rfl (fun j hj => by rw [xup_ne _ _ (by omega), xup_ne _ _ (by omega), xup_ne _ _ (by omega)]) (fun r => RB_up (RB_up (RB_up r (by omega) (by omega)) (by omega) (by omega)) (by omega) (by omega)), (congrArg (fun x => some (xi x)) (xb_f h02)).symm, by (funext i; by_cases h101 : i = 101; (subst h101; first | rfl | exact (xcp_zero _ _ _ _).symm | exact (xup_self _ _).symm | exact (xup_self2 _ _ _).symm | exact (xup_self3 _ _ _ _).symm | exact xup_self _ _); by_cases h103 : i = 103; (subst h103; first | rfl | exact (xcp_zero _ _ _ _).symm | exact (xup_self _ _).symm | exact (xup_self2 _ _ _).symm | exact (xup_self3 _ _ _ _).symm | exact xup_self _ _); by_cases h104 : i = 104; (subst h104; first | rfl | exact (xcp_zero _ _ _ _).symm | exact (xup_self _ _).symm | exact (xup_self2 _ _ _).symm | exact (xup_self3 _ _ _ _).symm | exact xup_self _ _); by_cases h105 : i = 105; (subst h105; first | rfl | exact (xcp_zero _ _ _ _).symm | exact (xup_self _ _).symm | exact (xup_self2 _ _ _).symm | exact (xup_self3 _ _ _ _).symm | exact xup_self _ _); by_cases h106 : i = 106; (subst h106; first | rfl | exact (xcp_zero _ _ _ _).symm | exact (xup_self _ _).symm | exact (xup_self2 _ _ _).symm | exact (xup_self3 _ _ _ _).symm | exact xup_self _ _); by_cases h108 : i = 108; (subst h108; first | rfl | exact (xcp_zero _ _ _ _).symm | exact (xup_self _ _).symm | exact (xup_self2 _ _ _).symm | exact (xup_self3 _ _ _ _).symm | exact xup_self _ _); first | rfl | simp only [xsc_ne _ _ h101, xsc_ne _ _ h103, xsc_ne _ _ h104, xsc_ne _ _ h105, xsc_ne _ _ h106, xsc_ne _ _ h108]), (by first | rfl | trivial), (by first | rfl | trivial)⟩
