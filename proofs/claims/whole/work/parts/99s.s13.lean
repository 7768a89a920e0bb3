/-- the reference was told a rule -/
def RUP (b T T2 g g2 cl cl2 cn cn2 : Int → Int) (M : List (List Int × List Int)) (r : Int) : Prop := (T 2 = 6 → r = -1 ∧ T2 = T ∧ g2 = g ∧ cl2 = cl ∧ cn2 = cn) ∧ (¬ T 2 = 6 → ((∀ j, ¬ (j = 1 ∨ j = 2 ∨ j = 8 ∨ j = 9 ∨ j = 10 ∨ j = 11 ∨ j = 12 ∨ j = 13 ∨ j = 14 ∨ j = 16) → T2 j = T j) ∧ (∀ j, j < 400 * T 2 ∨ 400 * T 2 + 400 ≤ j → g2 j = g j) ∧ (∀ j, j < 48 * T 2 ∨ 48 * T 2 + 48 ≤ j → cl2 j = cl j) ∧ (∀ j, ¬ j = T 2 → cn2 j = cn j) ∧ (RB cl → RB cl2) ∧ T2 1 = 0) ∧ ((∃ W, ¬ W = 0 ∧ (0 ≤ W ∧ W ≤ 10000) ∧ Q b (T 1) s00 (sX W) ∧ r = -2 - W ∧ T2 2 = T 2) ∨ (Q b (T 1) s00 (sY M) ∧ (∃ z, CLD g2 cl2 (T 2) M 0 0 z ∧ (0 ≤ z ∧ z ≤ 400)) ∧ (M.length : Int) = cn2 (T 2) ∧ (1 ≤ cn2 (T 2) ∧ cn2 (T 2) ≤ 12) ∧ r = T 2 ∧ T2 2 = T 2 + 1)))
section
variable {b T T1 g g1 l l1 cl cl1 cn cn1 : Int → Int} {M : List (List Int × List Int)}
theorem RUP.fr (h : RAR b (xup T 11 (T 2)) T1 g g1 l l1 cl cl1 (xup cn (T 2) 0) cn1 M) : ((∀ j, ¬ (j = 1 ∨ j = 8 ∨ j = 9 ∨ j = 10 ∨ j = 11 ∨ j = 12 ∨ j = 13 ∨ j = 14 ∨ j = 16) → T1 j = T j) ∧ (∀ j, j < 400 * T 2 ∨ 400 * T 2 + 400 ≤ j → g1 j = g j) ∧ (∀ j, j < 48 * T 2 ∨ 48 * T 2 + 48 ≤ j → cl1 j = cl j) ∧ (∀ j, ¬ j = T 2 → cn1 j = cn j) ∧ (RB cl → RB cl1) ∧ T1 1 = 0) := by
  obtain ⟨⟨f1, f2, f3, f4, f5, f6⟩, h2, h3, h4, h5⟩ := h
  exact ⟨fun j hj => (f1 j (by omega)).trans (xup_ne _ _ (by omega)), f2, f4, fun j hj => (f5 j hj).trans (xup_ne _ _ hj), f6, h3⟩
theorem RUP.ok (h6 : ¬ T 2 = 6) (h : RAR b (xup T 11 (T 2)) T1 g g1 l l1 cl cl1 (xup cn (T 2) 0) cn1 M) (h0 : T1 9 = 0) : RUP b T (xup T1 2 (T1 2 + 1)) g g1 cl cl1 cn cn1 M (T1 2 + 1 - 1) := by
  have hf := RUP.fr h
  have e2 := hf.1 2 (by omega)
  obtain ⟨-, h2, h3, h4, h5⟩ := h
  obtain ⟨a1, a2, a3, a4, a5⟩ := h4 h0
  refine ⟨fun r => absurd r h6, fun _ => ⟨⟨fun j hj => by rw [xup_ne _ _ (by omega)]; exact hf.1 j (by omega), hf.2.1, hf.2.2.1, hf.2.2.2.1, hf.2.2.2.2.1, h3⟩, Or.inr ⟨a5, ⟨_, a1, a2⟩, a3, a4, by omega, by show T1 2 + 1 = _; omega⟩⟩⟩
theorem RUP.no (h6 : ¬ T 2 = 6) (h : RAR b (xup T 11 (T 2)) T1 g g1 l l1 cl cl1 (xup cn (T 2) 0) cn1 M) (h0 : ¬ T1 9 = 0) : RUP b T T1 g g1 cl cl1 cn cn1 M (-2 - T1 9) := by
  have hf := RUP.fr h
  have e2 := hf.1 2 (by omega)
  obtain ⟨-, h2, h3, h4, h5⟩ := h
  exact ⟨fun r => absurd r h6, fun _ => ⟨⟨fun j hj => hf.1 j (by omega), hf.2⟩, Or.inl ⟨T1 9, h0, h2, h5 h0, rfl, e2⟩⟩⟩
end
set_option maxRecDepth 8000 in
theorem sg_185_0_r {d : Nat} {I : XI} {L : XL} {D : GD} {post : XQ}   (h : (((-2147483648 ≤ (I 101 (2 : Int)) ∧ (I 101 (2 : Int)) ≤ 2147483647) ∧ (-2147483648 ≤ (6 : Int) ∧ (6 : Int) ≤ 2147483647)) ∧ ((¬ (I 101 (2 : Int)) = (6 : Int) → ((0 ≤ (I 101 (2 : Int)) ∧ (I 101 (2 : Int)) < (6 : Int)) ∧ xR d 185 es_185 17 [xr (some 101)] [xr (some 101)] (xwr (xwr I 101 (11 : Int) (I 101 (2 : Int))) 106 (I 101 (2 : Int)) (0 : Int)) L (gG D) 0 0 post)) ∧ ((I 101 (2 : Int)) = (6 : Int) → post (some (xi (-1 : Int))) I L (gG D))))) : xR d 185 es_185 0 [xr (some 101)] [] I L (gG D) 0 0 post := xW_R (fun k => Nat.beq k 17) 15 _ _ _ _ _ _ _ _ _ _ _ _ h
set_option maxRecDepth 8000 in
theorem sg_185_18_r {d : Nat} {I : XI} {L : XL} {D : GD} {post : XQ}  {w0 : Int} (h : ((-2147483648 ≤ w0 ∧ w0 ≤ 2147483647) ∧ ((¬ w0 = 0 → post (some (xi (((I 101 (2 : Int)) + (1 : Int)) - (1 : Int)))) (xwr I 101 (2 : Int) ((I 101 (2 : Int)) + (1 : Int))) L (gG D)) ∧ (w0 = 0 → post (some (xi ((-2 : Int) - (I 101 (9 : Int))))) I L (gG D))))) : xR d 185 es_185 18 [xr (some 101)] [xi w0] I L (gG D) 0 0 post := xW_R (fun k => Nat.beq k 17) 12 _ _ _ _ _ _ _ _ _ _ _ _ h
set_option maxRecDepth 8000 in
theorem w_185_r {d : Nat} {I : XI} {L : XL} {D : GD} {post : XQ}    (hd : 12 ≤ d) (h : (((-2147483648 ≤ (I 101 (2 : Int)) ∧ (I 101 (2 : Int)) ≤ 2147483647)) ∧ ((¬ (I 101 (2 : Int)) = (6 : Int) → (((0 ≤ (I 101 (2 : Int)) ∧ (I 101 (2 : Int)) < (6 : Int))) ∧ ((TPO (I 102) (I 101 (1 : Int)) ∧ (0 ≤ I 101 (2 : Int) ∧ I 101 (2 : Int) < 6) ∧ xup (I 106) (I 101 (2 : Int)) (0 : Int) (I 101 (2 : Int)) = 0) ∧ (∀ (e4924 : Int → Int) (e4925 : Int → Int) (e4926 : Int → Int) (e4927 : Int → Int) (e4928 : Int → Int) (e4929 : Int → Int) (e4930 : List (List Int × List Int)), (RAR (I 102) (xup (I 101) (11 : Int) (I 101 (2 : Int))) e4924 (I 103) e4925 (I 104) e4926 (I 105) e4927 (xup (I 106) (I 101 (2 : Int)) (0 : Int)) e4928 e4930 → (((e4924 9 = 0 → post (some (xi (((e4924 (2 : Int)) + (1 : Int)) - (1 : Int)))) (xsc (xsc (xsc (xsc (xsc (xsc I 101 (xup e4924 (2 : Int) ((e4924 (2 : Int)) + (1 : Int)))) 103 e4925) 104 e4926) 105 e4927) 106 e4928) 108 e4929) L (gG D)) ∧ (¬ (e4924 9 = 0) → post (some (xi ((-2 : Int) - (e4924 (9 : Int))))) (xsc (xsc (xsc (xsc (xsc (xsc I 101 e4924) 103 e4925) 104 e4926) 105 e4927) 106 e4928) 108 e4929) L (gG D))))))))) ∧ ((I 101 (2 : Int)) = (6 : Int) → post (some (xi (-1 : Int))) I L (gG D))))) : xR d 185 es_185 0 [xr (some 101)] [] I L (gG D) 0 0 post := sg_185_0_r  (⟨⟨h.1, (by decide)⟩, ⟨fun q4933 => ⟨(h.2.1 q4933).1, (xR_cQ rfl rfl rfl (c_184_r (h.2.1 q4933).2.1) (by omega) (fun _ _ _ _ hx4935 => by obtain ⟨e4924, e4925, e4926, e4927, e4928, e4929, e4930, hp4936, rfl, rfl, rfl, rfl⟩ := hx4935; exact (sg_185_18_r  ⟨(xb_rg _), ⟨fun q4931 => (xpost (((h.2.1 q4933).2.2 e4924 e4925 e4926 e4927 e4928 e4929 e4930 hp4936).1 (xb_n0 q4931)) (funext fun i => (xpt rfl (fun h108_ => (xpt rfl (fun h106_ => (xpt rfl (fun h105_ => (xpt rfl (fun h104_ => (xpt rfl (fun h103_ => (xpt rfl (fun h101_ => (by simp only [xsc_ne _ _ h101_, xwr_ne _ _ _ h101_, xsc_ne _ _ h103_, xwr_ne _ _ _ h103_, xsc_ne _ _ h104_, xwr_ne _ _ _ h104_, xsc_ne _ _ h105_, xwr_ne _ _ _ h105_, xsc_ne _ _ h106_, xwr_ne _ _ _ h106_, xsc_ne _ _ h108_, xwr_ne _ _ _ h108_])))))))))))))) rfl), fun q4932 => (xpost (((h.2.1 q4933).2.2 e4924 e4925 e4926 e4927 e4928 e4929 e4930 hp4936).2 (xb_0 q4932)) (funext fun i => (xpt rfl (fun h108_ => (xpt rfl (fun h106_ => (xpt rfl (fun h105_ => (xpt rfl (fun h104_ => (xpt rfl (fun h103_ => (xpt rfl (fun h101_ => (by simp only [xsc_ne _ _ h101_, xwr_ne _ _ _ h101_, xsc_ne _ _ h103_, xwr_ne _ _ _ h103_, xsc_ne _ _ h104_, xwr_ne _ _ _ h104_, xsc_ne _ _ h105_, xwr_ne _ _ _ h105_, xsc_ne _ _ h106_, xwr_ne _ _ _ h106_, xsc_ne _ _ h108_, xwr_ne _ _ _ h108_])))))))))))))) rfl)⟩⟩)))⟩, fun q4934 => (h.2.2 q4934)⟩⟩)
theorem c_185_r {I : XI} {L : XL} {D : GD}    (h : (TPO (I 102) (I 101 (1 : Int)) ∧ (0 ≤ I 101 (2 : Int) ∧ I 101 (2 : Int) ≤ 6))) : xM 12 185 [xr (some 101)] I L (gG D) (0, 0) (fun r2 I2 L2 G2 => ∃ (T9 : Int → Int) (g9 : Int → Int) (l9 : Int → Int) (c9 : Int → Int) (n9 : Int → Int) (R9 : Int → Int) (M9 : List (List Int × List Int)) (r9 : Int), RUP (I 102) (I 101) T9 (I 103) g9 (I 105) c9 (I 106) n9 M9 r9 ∧ r2 = (some (xi r9)) ∧ I2 = (xsc (xsc (xsc (xsc (xsc (xsc I 101 T9) 103 g9) 104 l9) 105 c9) 106 n9) 108 R9) ∧ L2 = L ∧ G2 = (gG D)) := by
  intro d hd
  obtain ⟨hT, h2⟩ := h
  have hT1 := hT.1
  refine w_185_r (by omega) ?_
  refine ⟨⟨by omega, by omega⟩, fun n6 => ⟨⟨by omega, by omega⟩, ⟨hT, ⟨by omega, by omega⟩, xup_same _ _ _⟩, fun T1 g1 l1 c1 n1 R1 M1 hz => ⟨fun h0 => ?_, fun h0 => ?_⟩⟩, fun y6 => ?_⟩
  · exact ⟨_, _, _, _, _, _, _, _, RUP.ok n6 hz h0, rfl, rfl, rfl, rfl⟩
  · exact ⟨_, _, _, _, _, _, _, _, RUP.no n6 hz h0, rfl, rfl, rfl, rfl⟩
  · exact ⟨I 101, I 103, I 104, I 105, I 106, I 108, [], -1, ⟨fun _ => ⟨rfl, rfl, rfl, rfl, rfl⟩, fun r => absurd y6 r⟩, rfl, by (funext i; by_cases h101 : i = 101; (subst h101; first | rfl | exact (xcp_zero _ _ _ _).symm | exact (xup_self _ _).symm | exact (xup_self2 _ _ _).symm | exact (xup_self3 _ _ _ _).symm | exact xup_self _ _); by_cases h103 : i = 103; (subst h103; first | rfl | exact (xcp_zero _ _ _ _).symm | exact (xup_self _ _).symm | exact (xup_self2 _ _ _).symm | exact (xup_self3 _ _ _ _).symm | exact xup_self _ _); by_cases h104 : i = 104; (subst h104; first | rfl | exact (xcp_zero _ _ _ _).symm | exact (xup_self _ _).symm | exact (xup_self2 _ _ _).symm | exact (xup_self3 _ _ _ _).symm | exact xup_self _ _); by_cases h105 : i = 105; (subst h105; first | rfl | exact (xcp_zero _ _ _ _).symm | exact (xup_self _ _).symm | exact (xup_self2 _ _ _).symm | exact (xup_self3 _ _ _ _).symm | exact xup_self _ _); by_cases h106 : i = 106; (subst h106; first | rfl | exact (xcp_zero _ _ _ _).symm | exact (xup_self _ _).symm | exact (xup_self2 _ _ _).symm | exact (xup_self3 _ _ _ _).symm | exact xup_self _ _); by_cases h108 : i = 108; (subst h108; first | rfl | exact (xcp_zero _ _ _ _).symm | exact (xup_self _ _).symm | exact (xup_self2 _ _ _).symm | exact (xup_self3 _ _ _ _).symm | exact xup_self _ _); first | rfl | simp only [xsc_ne _ _ h101, xsc_ne _ _ h103, xsc_ne _ _ h104, xsc_ne _ _ h105, xsc_ne _ _ h106, xsc_ne _ _ h108]), rfl, rfl⟩
/-! what a row of signs does to a stack -/
def rlx (w : Int → Int64) : List Int → List Int64 → Option (List Int64)
  | [], st => some st
  | x :: xs, st => (match pstp x w st with
    | some s2 => rlx w xs s2
    | none => none)
def clx (w : Int → Int64) : List Int → List Int64 → Option (List Int64)
  | [], st => some st
  | x :: xs, st => (match cstp x w st with
    | some s2 => clx w xs s2
    | none => none)
theorem rlx_app {w : Int → Int64} : ∀ (a c : List Int) (st s1 : List Int64), rlx w a st = some s1 → rlx w (a ++ c) st = rlx w c s1 := by
  intro a
  induction a with
  | nil => intro c st s1 h; have h2 : st = s1 := Option.some.inj h; rw [h2]; rfl
  | cons x xs ih =>
    intro c st s1 h
    have e : rlx w (x :: xs ++ c) st = (match pstp x w st with | some s2 => rlx w (xs ++ c) s2 | none => none) := rfl
    have e2 : rlx w (x :: xs) st = (match pstp x w st with | some s2 => rlx w xs s2 | none => none) := rfl
    rw [e]
    rw [e2] at h
    cases hp : pstp x w st with
    | none => rw [hp] at h; cases h
    | some s2 => rw [hp] at h; exact ih c s2 s1 h
theorem clx_app {w : Int → Int64} : ∀ (a c : List Int) (st s1 : List Int64), clx w a st = some s1 → clx w (a ++ c) st = clx w c s1 := by
  intro a
  induction a with
  | nil => intro c st s1 h; have h2 : st = s1 := Option.some.inj h; rw [h2]; rfl
  | cons x xs ih =>
    intro c st s1 h
    have e : clx w (x :: xs ++ c) st = (match cstp x w st with | some s2 => clx w (xs ++ c) s2 | none => none) := rfl
    have e2 : clx w (x :: xs) st = (match cstp x w st with | some s2 => clx w xs s2 | none => none) := rfl
    rw [e]
    rw [e2] at h
    cases hp : cstp x w st with
    | none => rw [hp] at h; cases h
    | some s2 => rw [hp] at h; exact ih c s2 s1 h
theorem rlx_split {w : Int → Int64} : ∀ (a c : List Int) (st s2 : List Int64), rlx w (a ++ c) st = some s2 → ∃ s1, rlx w a st = some s1 ∧ rlx w c s1 = some s2 := by
  intro a
  induction a with
  | nil => intro c st s2 h; exact ⟨st, rfl, h⟩
  | cons x xs ih =>
    intro c st s2 h
    have e : rlx w (x :: xs ++ c) st = (match pstp x w st with | some s2 => rlx w (xs ++ c) s2 | none => none) := rfl
    rw [e] at h
    cases hp : pstp x w st with
    | none => rw [hp] at h; cases h
    | some s3 =>
      rw [hp] at h
      obtain ⟨s1, h1, h2⟩ := ih c s3 s2 h
      exact ⟨s1, by show (match pstp x w st with | some s2 => rlx w xs s2 | none => none) = _; rw [hp]; exact h1, h2⟩
theorem pex_rlx {sg : Int → Int} {w : Int → Int64} : ∀ (l : List Int) (q : Int) (st : List Int64), rdl sg q l → pex sg w l.length q st = rlx w l st := by
  intro l
  induction l with
  | nil => intro q st _; rfl
  | cons x xs ih =>
    intro q st h
    have e : pex sg w (xs.length + 1) q st = (match pstp (sg q) w st with | some s2 => pex sg w xs.length (q + 1) s2 | none => none) := rfl
    have e2 : rlx w (x :: xs) st = (match pstp x w st with | some s2 => rlx w xs s2 | none => none) := rfl
    show pex sg w (xs.length + 1) q st = _
    rw [e, e2, h.1]
    cases pstp x w st with
    | none => rfl
    | some s2 => exact ih (q + 1) s2 h.2
theorem cex_clx {cd : Int → Int} {w : Int → Int64} : ∀ (l : List Int) (q : Int) (st : List Int64), rdl cd q l → cex cd w l.length q st = clx w l st := by
  intro l
  induction l with
  | nil => intro q st _; rfl
  | cons x xs ih =>
    intro q st h
    have e : cex cd w (xs.length + 1) q st = (match cstp (cd q) w st with | some s2 => cex cd w xs.length (q + 1) s2 | none => none) := rfl
    have e2 : clx w (x :: xs) st = (match cstp x w st with | some s2 => clx w xs s2 | none => none) := rfl
    show cex cd w (xs.length + 1) q st = _
    rw [e, e2, h.1]
    cases cstp x w st with
    | none => rfl
    | some s2 => exact ih (q + 1) s2 h.2
/-- the class's code does what the reference's does -/
def CR (e c : List Int) : Prop := ∀ (w : Int → Int64) (s s2 : List Int64), rlx w e s = some s2 → clx w c s = some s2
theorem CR.nil : CR [] [] := fun _ _ _ h => h
theorem CR.app {e c e2 c2 : List Int} (h : CR e c) (h2 : CR e2 c2) : CR (e ++ e2) (c ++ c2) := by
  intro w s s2 hr
  obtain ⟨s1, a1, a2⟩ := rlx_split e e2 s s2 hr
  rw [clx_app c c2 s s1 (h w s s1 a1)]
  exact h2 w s1 s2 a2
theorem CR.one {x y : Int} (h : ∀ (w : Int → Int64) (s : List Int64), cstp y w s = pstp x w s) : CR [x] [y] := by
  intro w s s2 hr
  have e : rlx w [x] s = (match pstp x w s with | some s2 => some s2 | none => none) := rfl
  have e2 : clx w [y] s = (match cstp y w s with | some s2 => some s2 | none => none) := rfl
  rw [e] at hr
  rw [e2, h]
  exact hr
theorem CR.nn : CR [11, 11] [] := by
  intro w s s2 hr
  have e : rlx w [11, 11] s = (match pstp 11 w s with | some s2 => (match pstp 11 w s2 with | some s3 => some s3 | none => none) | none => none) := rfl
  rw [e] at hr
  cases s with
  | nil => cases hr
  | cons a r =>
    have e1 : pstp 11 w (a :: r) = some ((1 - a) :: r) := rfl
    have e3 : pstp 11 w ((1 - a) :: r) = some ((1 - (1 - a)) :: r) := rfl
    rw [e1] at hr
    simp only [e3] at hr
    have h2 : (1 - (1 - a)) :: r = s2 := Option.some.inj hr
    rw [← h2]
    show some (a :: r) = some ((1 - (1 - a)) :: r)
    have h3 : (1 - (1 - a)) = a := by
      apply Int64.toBitVec_inj.mp
      show (1 : BitVec 64) - ((1 : BitVec 64) - a.toBitVec) = a.toBitVec
      generalize a.toBitVec = y
      bv_omega
    rw [h3]
