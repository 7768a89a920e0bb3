/-! the open signs as a list -/
def olist (R : Int → Int) : Nat → List Int
  | 0 => []
  | n + 1 => R (n : Int) :: olist R n
theorem olist_up {R : Int → Int} {j v : Int} : ∀ n : Nat, (n : Int) ≤ j → olist (xup R j v) n = olist R n := by
  intro n
  induction n with
  | zero => intro _; rfl
  | succ n ih =>
    intro h
    show xup R j v (n : Int) :: olist (xup R j v) n = R (n : Int) :: olist R n
    rw [xup_ne _ _ (by omega), ih (by omega)]
def OL (R T : Int → Int) : List Int := olist R (T 16).toNat
def sth (x : Int) : Int := if x = 13 then 1 else if x = 12 then 2 else if x = 11 then 3 else 0
def spop (k : Int) : List Int → List Int
  | [] => []
  | x :: r => if k ≤ sth x then x :: spop k r else []
def srst (k : Int) : List Int → List Int
  | [] => []
  | x :: r => if k ≤ sth x then srst k r else x :: r
def wfs : List Int → Nat → Prop
  | [], _ => True
  | x :: r, k => if x = 91 then wfs r 0 else if x = 13 then k < 2 ∧ wfs r 2 else if x = 12 then k < 1 ∧ wfs r 1 else x = 11 ∧ k = 0 ∧ wfs r 0
def ins9 : List Int → Bool
  | [] => false
  | x :: r => decide (x = 91) || ins9 r
theorem wfs_91 {r : List Int} {k : Nat} : wfs (91 :: r) k = wfs r 0 := rfl
theorem wfs_0 {r : List Int} : ∀ {k : Nat}, wfs r k → wfs r 0 := by
  intro k h
  cases r with
  | nil => trivial
  | cons x r =>
    unfold wfs at h ⊢
    by_cases c1 : x = 91
    · rw [if_pos c1] at h ⊢; exact h
    · rw [if_neg c1] at h ⊢
      by_cases c2 : x = 13
      · rw [if_pos c2] at h ⊢; exact ⟨by omega, h.2⟩
      · rw [if_neg c2] at h ⊢
        by_cases c3 : x = 12
        · rw [if_pos c3] at h ⊢; exact ⟨by omega, h.2⟩
        · rw [if_neg c3] at h ⊢; exact ⟨h.1, rfl, h.2.2⟩
theorem wfs_2 {r : List Int} (h : wfs r 2) : r = [] ∨ ∃ t, r = 91 :: t ∧ wfs t 0 := by
  cases r with
  | nil => exact Or.inl rfl
  | cons x r =>
    unfold wfs at h
    by_cases c1 : x = 91
    · rw [if_pos c1] at h; subst c1; exact Or.inr ⟨r, rfl, h⟩
    · rw [if_neg c1] at h
      by_cases c2 : x = 13
      · rw [if_pos c2] at h; omega
      · rw [if_neg c2] at h
        by_cases c3 : x = 12
        · rw [if_pos c3] at h; omega
        · rw [if_neg c3] at h; omega
theorem wfs_1 {r : List Int} (h : wfs r 1) : (r = [] ∨ ∃ t, r = 91 :: t ∧ wfs t 0) ∨ ∃ u, r = 13 :: u ∧ (u = [] ∨ ∃ t, u = 91 :: t ∧ wfs t 0) := by
  cases r with
  | nil => exact Or.inl (Or.inl rfl)
  | cons x r =>
    unfold wfs at h
    by_cases c1 : x = 91
    · rw [if_pos c1] at h; subst c1; exact Or.inl (Or.inr ⟨r, rfl, h⟩)
    · rw [if_neg c1] at h
      by_cases c2 : x = 13
      · rw [if_pos c2] at h; subst c2; exact Or.inr ⟨r, rfl, wfs_2 h.2⟩
      · rw [if_neg c2] at h
        by_cases c3 : x = 12
        · rw [if_pos c3] at h; omega
        · rw [if_neg c3] at h; omega
/-- an open list with no not on top -/
theorem wfs_cl {r : List Int} (h : wfs r 0) (hc : ¬ r.headD 0 = 11) : (r = [] ∨ ∃ t, r = 91 :: t ∧ wfs t 0) ∨ (∃ u, r = 13 :: u ∧ (u = [] ∨ ∃ t, u = 91 :: t ∧ wfs t 0)) ∨ (∃ v, r = 12 :: v ∧ ((v = [] ∨ ∃ t, v = 91 :: t ∧ wfs t 0) ∨ ∃ u, v = 13 :: u ∧ (u = [] ∨ ∃ t, u = 91 :: t ∧ wfs t 0))) := by
  cases r with
  | nil => exact Or.inl (Or.inl rfl)
  | cons x r =>
    have hc2 : ¬ x = 11 := hc
    unfold wfs at h
    by_cases c1 : x = 91
    · rw [if_pos c1] at h; subst c1; exact Or.inl (Or.inr ⟨r, rfl, h⟩)
    · rw [if_neg c1] at h
      by_cases c2 : x = 13
      · rw [if_pos c2] at h; subst c2; exact Or.inr (Or.inl ⟨r, rfl, wfs_2 h.2⟩)
      · rw [if_neg c2] at h
        by_cases c3 : x = 12
        · rw [if_pos c3] at h; subst c3; exact Or.inr (Or.inr ⟨r, rfl, wfs_1 h.2⟩)
        · rw [if_neg c3] at h; exact absurd h.1 hc2
theorem spop_srst {k : Int} : ∀ O : List Int, O.length = (spop k O).length + (srst k O).length := by
  intro O
  induction O with
  | nil => rfl
  | cons x r ih =>
    unfold spop srst
    by_cases c : k ≤ sth x
    · rw [if_pos c, if_pos c, List.length_cons, List.length_cons]; omega
    · rw [if_neg c, if_neg c]; show _ = 0 + _; omega
theorem srst_dpo {k : Int} : ∀ O : List Int, dpo (srst k O) ≤ dpo O ∧ 0 ≤ dpo (srst k O) := by
  have h0 : ∀ O : List Int, 0 ≤ dpo O := by
    intro O
    induction O with
    | nil => exact Int.le_refl _
    | cons x r ih => unfold dpo; split <;> omega
  intro O
  refine ⟨?_, h0 _⟩
  induction O with
  | nil => exact Int.le_refl _
  | cons x r ih =>
    unfold srst
    by_cases c : k ≤ sth x
    · rw [if_pos c]; show _ ≤ (if x = 11 ∨ x = 91 then 1 else 0) + dpo r; split <;> omega
    · rw [if_neg c]; exact Int.le_refl _
theorem dpo_0 : ∀ O : List Int, 0 ≤ dpo O := by
  intro O
  induction O with
  | nil => exact Int.le_refl _
  | cons x r ih => unfold dpo; split <;> omega
theorem srst_wfs {k : Int} : ∀ O : List Int, wfs O 0 → wfs (srst k O) 0 := by
  have h : ∀ (O : List Int) (j : Nat), wfs O j → wfs (srst k O) 0 := by
    intro O
    induction O with
    | nil => intro j _; trivial
    | cons x r ih =>
      intro j h
      unfold srst
      by_cases c : k ≤ sth x
      · rw [if_pos c]
        unfold wfs at h
        by_cases c1 : x = 91
        · rw [if_pos c1] at h; exact ih _ h
        · rw [if_neg c1] at h
          by_cases c2 : x = 13
          · rw [if_pos c2] at h; exact ih _ h.2
          · rw [if_neg c2] at h
            by_cases c3 : x = 12
            · rw [if_pos c3] at h; exact ih _ h.2
            · rw [if_neg c3] at h; exact ih _ h.2.2
      · rw [if_neg c]; exact wfs_0 h
  intro O h2
  exact h O 0 h2
theorem sth_3 {x : Int} : 3 ≤ sth x ↔ x = 11 := by
  unfold sth
  by_cases c1 : x = 13
  · rw [if_pos c1]; omega
  · rw [if_neg c1]
    by_cases c2 : x = 12
    · rw [if_pos c2]; omega
    · rw [if_neg c2]
      by_cases c3 : x = 11
      · rw [if_pos c3]; omega
      · rw [if_neg c3]; omega
section
variable {b : Int → Int} {n lo ti cx sg p k : Int} {O E S : List Int} {M : List (List Int × List Int)}
theorem q5k (h : p ≤ n) : ∀ (O E : List Int) (lo ti cx sg : Int), Q b n (5, lo, ti, cx, sg, p, k, O, E, S, M) (5, lo, ti, cx, sg, sk b n p, k, O, E, S, M) := by
  intro O
  induction O with
  | nil => intro E lo ti cx sg; exact q5s h
  | cons x r ih =>
    intro E lo ti cx sg
    by_cases c : x = 11 ∨ x = 12
    · exact (q5p c).tr ((ih _ _ _ _ _).tr (q5p c).sy)
    · refine Q.tr (Q_step _) (Q.sy (Q_st ?_))
      show (if x = 11 ∨ x = 12 then _ else _) = (if x = 11 ∨ x = 12 then _ else _)
      rw [if_neg c, if_neg c, sk_sk h]
/-- nots are settled -/
theorem q5t : ∀ (O E : List Int), Q b n (5, -1, -1, 0, 0, p, k, O, E, S, M) (5, -1, -1, 0, 0, p, k, srst 3 O, E ++ spop 3 O, S, M) := by
  intro O
  induction O with
  | nil => intro E; show Q b n _ (5, -1, -1, 0, 0, p, k, [], E ++ [], S, M); rw [List.append_nil]; exact Q.rfl_
  | cons x r ih =>
    intro E
    unfold srst spop
    by_cases c : 3 ≤ sth x
    · rw [if_pos c, if_pos c]
      have hx := sth_3.mp c
      refine (q5p (Or.inl hx)).tr ((ih _).tr ?_)
      rw [List.append_assoc]
      exact Q.rfl_
    · rw [if_neg c, if_neg c, List.append_nil]
      exact Q.rfl_
theorem srst3_hd : ∀ O : List Int, ¬ (srst 3 O).headD 0 = 11 := by
  intro O
  induction O with
  | nil => show ¬ (0 : Int) = 11; omega
  | cons x r ih =>
    unfold srst
    by_cases c : 3 ≤ sth x
    · rw [if_pos c]; exact ih
    · rw [if_neg c]; exact fun r => c (sth_3.mpr r)
theorem apn {x y : Int} : E ++ [x] ++ [y] = E ++ [x, y] := by rw [List.append_assoc]; rfl
/-- an open list at the end of a level -/
theorem q5end (h : wfs O 0) (hc : ¬ O.headD 0 = 11) : ((srst 1 O = [] ∧ ins9 O = false) ∨ ∃ t, srst 1 O = 91 :: t ∧ ins9 O = true ∧ wfs t 0 ∧ dpo t + 1 = dpo O) ∧ wfs (srst 1 O) 2 ∧ ∀ E, (tw b n (sk b n p) = 17 → Q b n (5, -1, -1, 0, 0, p, k, O, E, S, M) (4, -1, -1, 0, 0, le_ b n (sk b n p), k, 13 :: srst 1 O, E ++ spop 1 O, S, M)) ∧ (¬ tw b n (sk b n p) = 16 → ¬ tw b n (sk b n p) = 17 → Q b n (5, -1, -1, 0, 0, p, k, O, E, S, M) (7, -1, -1, 0, 0, sk b n p, k, srst 1 O, E ++ spop 1 O, S, M)) := by
  have a0 : ∀ E : List Int, E ++ ([] : List Int) = E := List.append_nil
  rcases wfs_cl h hc with (rfl | ⟨t, rfl, ht⟩) | ⟨u, rfl, (rfl | ⟨t, rfl, ht⟩)⟩ | ⟨v, rfl, ((rfl | ⟨t, rfl, ht⟩) | ⟨u, rfl, (rfl | ⟨t, rfl, ht⟩)⟩)⟩
  · refine ⟨Or.inl ⟨rfl, rfl⟩, trivial, fun E => ⟨fun w => ?_, fun w w2 => ?_⟩⟩
    · show Q b n _ (4, -1, -1, 0, 0, le_ b n (sk b n p), k, 13 :: [], E ++ [], S, M)
      rw [a0]; exact q5o (by show ¬ ((0 : Int) = 11 ∨ (0 : Int) = 12); omega) w (by show ¬ (0 : Int) = 13; omega)
    · show Q b n _ (7, -1, -1, 0, 0, sk b n p, k, [], E ++ [], S, M)
      rw [a0]; exact q5e (by show ¬ ((0 : Int) = 11 ∨ (0 : Int) = 12); omega) w w2 (by show ¬ (0 : Int) = 13; omega)
  · refine ⟨Or.inr ⟨t, rfl, rfl, ht, ?_⟩, ht, fun E => ⟨fun w => ?_, fun w w2 => ?_⟩⟩
    · show dpo t + 1 = 1 + dpo t; omega
    · show Q b n _ (4, -1, -1, 0, 0, le_ b n (sk b n p), k, 13 :: 91 :: t, E ++ [], S, M)
      rw [a0]; exact q5o (by show ¬ ((91 : Int) = 11 ∨ (91 : Int) = 12); omega) w (by show ¬ (91 : Int) = 13; omega)
    · show Q b n _ (7, -1, -1, 0, 0, sk b n p, k, 91 :: t, E ++ [], S, M)
      rw [a0]; exact q5e (by show ¬ ((91 : Int) = 11 ∨ (91 : Int) = 12); omega) w w2 (by show ¬ (91 : Int) = 13; omega)
  · refine ⟨Or.inl ⟨rfl, rfl⟩, trivial, fun E => ⟨fun w => ?_, fun w w2 => ?_⟩⟩
    · exact q5oo w
    · exact q5eo w w2
  · refine ⟨Or.inr ⟨t, rfl, rfl, ht, ?_⟩, ht, fun E => ⟨fun w => ?_, fun w w2 => ?_⟩⟩
    · show dpo t + 1 = 0 + (1 + dpo t); omega
    · exact q5oo w
    · exact q5eo w w2
  · refine ⟨Or.inl ⟨rfl, rfl⟩, trivial, fun E => ⟨fun w => ?_, fun w w2 => ?_⟩⟩
    · exact (q5p (Or.inr rfl)).tr (q5o (by show ¬ ((0 : Int) = 11 ∨ (0 : Int) = 12); omega) w (by show ¬ (0 : Int) = 13; omega))
    · exact (q5p (Or.inr rfl)).tr (q5e (by show ¬ ((0 : Int) = 11 ∨ (0 : Int) = 12); omega) w w2 (by show ¬ (0 : Int) = 13; omega))
  · refine ⟨Or.inr ⟨t, rfl, rfl, ht, ?_⟩, ht, fun E => ⟨fun w => ?_, fun w w2 => ?_⟩⟩
    · show dpo t + 1 = 0 + (1 + dpo t); omega
    · exact (q5p (Or.inr rfl)).tr (q5o (by show ¬ ((91 : Int) = 11 ∨ (91 : Int) = 12); omega) w (by show ¬ (91 : Int) = 13; omega))
    · exact (q5p (Or.inr rfl)).tr (q5e (by show ¬ ((91 : Int) = 11 ∨ (91 : Int) = 12); omega) w w2 (by show ¬ (91 : Int) = 13; omega))
  · refine ⟨Or.inl ⟨rfl, rfl⟩, trivial, fun E => ⟨fun w => ?_, fun w w2 => ?_⟩⟩
    · refine (q5p (Or.inr rfl)).tr ((q5oo w).tr ?_); rw [apn]; exact Q.rfl_
    · refine (q5p (Or.inr rfl)).tr ((q5eo w w2).tr ?_); rw [apn]; exact Q.rfl_
  · refine ⟨Or.inr ⟨t, rfl, rfl, ht, ?_⟩, ht, fun E => ⟨fun w => ?_, fun w w2 => ?_⟩⟩
    · show dpo t + 1 = 0 + (0 + (1 + dpo t)); omega
    · refine (q5p (Or.inr rfl)).tr ((q5oo w).tr ?_); rw [apn]; exact Q.rfl_
    · refine (q5p (Or.inr rfl)).tr ((q5eo w w2).tr ?_); rw [apn]; exact Q.rfl_
theorem q5and (h : wfs O 0) (hc : ¬ O.headD 0 = 11) (w : tw b n (sk b n p) = 16) : wfs (srst 2 O) 1 ∧ ∀ E, Q b n (5, -1, -1, 0, 0, p, k, O, E, S, M) (4, -1, -1, 0, 0, le_ b n (sk b n p), k, 12 :: srst 2 O, E ++ spop 2 O, S, M) := by
  have a0 : ∀ E : List Int, E ++ ([] : List Int) = E := List.append_nil
  rcases wfs_cl h hc with (rfl | ⟨t, rfl, ht⟩) | ⟨u, rfl, hu⟩ | ⟨v, rfl, hv⟩
  · refine ⟨trivial, fun E => ?_⟩
    show Q b n _ (4, -1, -1, 0, 0, le_ b n (sk b n p), k, 12 :: [], E ++ [], S, M)
    rw [a0]; exact q5a (by show ¬ ((0 : Int) = 11 ∨ (0 : Int) = 12); omega) w
  · refine ⟨ht, fun E => ?_⟩
    show Q b n _ (4, -1, -1, 0, 0, le_ b n (sk b n p), k, 12 :: 91 :: t, E ++ [], S, M)
    rw [a0]; exact q5a (by show ¬ ((91 : Int) = 11 ∨ (91 : Int) = 12); omega) w
  · refine ⟨?_, fun E => ?_⟩
    · show wfs (13 :: u) 1
      exact ⟨(by decide : 1 < 2), h.2⟩
    · show Q b n _ (4, -1, -1, 0, 0, le_ b n (sk b n p), k, 12 :: 13 :: u, E ++ [], S, M)
      rw [a0]; exact q5a (by show ¬ ((13 : Int) = 11 ∨ (13 : Int) = 12); omega) w
  · have hw : wfs v 1 := h.2
    have e1 : srst 2 (12 :: v) = v ∧ spop 2 (12 :: v) = [12] ∧ ¬ (v.headD 0 = 11 ∨ v.headD 0 = 12) := by
      rcases hv with (rfl | ⟨t, rfl, ht⟩) | ⟨u, rfl, hu⟩
      · exact ⟨rfl, rfl, by show ¬ ((0 : Int) = 11 ∨ (0 : Int) = 12); omega⟩
      · exact ⟨rfl, rfl, by show ¬ ((91 : Int) = 11 ∨ (91 : Int) = 12); omega⟩
      · exact ⟨rfl, rfl, by show ¬ ((13 : Int) = 11 ∨ (13 : Int) = 12); omega⟩
    rw [e1.1, e1.2.1]
    exact ⟨hw, fun E => (q5p (Or.inr rfl)).tr (q5a e1.2.2 w)⟩
end
/-- a piece of a test may be read here -/
def RT (b T l R : Int → Int) : Prop := RK b T l ∧ T 13 = dpo (OL R T) ∧ dpo (OL R T) ≤ 10 ∧ wfs (OL R T) 0 ∧ (0 ≤ T 16 ∧ l (T 11) + T 16 ≤ T 8)
def MV (T T1 : Int → Int) (p dd o : Int) : Prop := T1 8 = p ∧ T1 13 = dd ∧ T1 16 = o ∧ ∀ j, ¬ (j = 8 ∨ j = 13 ∨ j = 16) → T1 j = T j
theorem MV.fr {T T1 g l : Int → Int} {p dd o : Int} (h : MV T T1 p dd o) : RFr T T1 g g l l := ⟨fun j hj => h.2.2.2 j (by omega), fun _ _ => rfl, fun _ _ => rfl⟩
theorem MV.rk {b T T1 l : Int → Int} {p dd o : Int} (h : MV T T1 p dd o) (hk : RK b T l) (h0 : T 8 ≤ p ∧ p ≤ T 1) (ho : l (T 11) ≤ p) : RK b T1 l := by
  obtain ⟨k1, k2, k3, k4, k5, k6, k7⟩ := hk
  obtain ⟨m1, m2, m3, m4⟩ := h
  refine ⟨by rw [m4 1 (by omega)]; exact k1, by rw [m1, m4 1 (by omega)]; omega, by rw [m4 9 (by omega)]; exact k3, by rw [m4 12 (by omega)]; exact k4, by rw [m4 11 (by omega)]; exact k5, by rw [m4 11 (by omega), m1]; omega, by rw [m4 11 (by omega), m1]; omega⟩
theorem OL_push {R T T1 : Int → Int} {x : Int} (h0 : 0 ≤ T 16) (h : T1 16 = T 16 + 1) : OL (xup R (T 16) x) T1 = x :: OL R T := by
  unfold OL
  rw [h, show (T 16 + 1).toNat = (T 16).toNat + 1 by omega]
  show xup R (T 16) x ((T 16).toNat : Int) :: olist (xup R (T 16) x) (T 16).toNat = _
  rw [olist_up _ (by omega), show (((T 16).toNat : Nat) : Int) = T 16 by omega, xup_same]
theorem OL_pop {R T T1 : Int → Int} (h0 : 0 < T 16) (h : T1 16 = T 16 - 1) : OL R T = R (T 16 - 1) :: OL R T1 := by
  unfold OL
  rw [h, show (T 16).toNat = (T 16 - 1).toNat + 1 by omega]
  show R (((T 16 - 1).toNat : Nat) : Int) :: _ = _
  rw [show (((T 16 - 1).toNat : Nat) : Int) = T 16 - 1 by omega]
theorem OL_len {R T : Int → Int} : (OL R T).length = (T 16).toNat := by
  have : ∀ n : Nat, (olist R n).length = n := by
    intro n
    induction n with
    | zero => rfl
    | succ n ih => show (olist R n).length + 1 = n + 1; rw [ih]
  exact this _
theorem OL_eq {R T T1 : Int → Int} (h : T1 16 = T 16) : OL R T1 = OL R T := by unfold OL; rw [h]
/-- signs are settled -/
def STP (k : Int) (b R T T2 g g2 l l2 : Int → Int) : Prop := RFr T T2 g g2 l l2 ∧ (T2 8 = T 8 ∧ T2 12 = T 12) ∧ RT b T2 l2 R ∧ OL R T2 = srst k (OL R T) ∧ g2 = wrl g (400 * T 11 + l (T 11)) (spop k (OL R T)) ∧ l2 (T 11) = l (T 11) + ((spop k (OL R T)).length : Int)
section
variable {k : Int} {b R T T1 T2 g g1 g2 l l1 l2 : Int → Int}
theorem STP.nil (h : RT b T l R) (h0 : ¬ 0 < T 16 ∨ ¬ k ≤ sth (R (T 16 - 1))) : STP k b R T T g g l l := by
  have h16 : 0 ≤ T 16 := h.2.2.2.2.1
  have e : srst k (OL R T) = OL R T ∧ spop k (OL R T) = [] := by
    by_cases c : 0 < T 16
    · rw [OL_pop (T1 := xup T 16 (T 16 - 1)) c rfl]
      unfold srst spop
      rw [if_neg (by omega), if_neg (by omega)]
      exact ⟨rfl, rfl⟩
    · have : OL R T = [] := by unfold OL; rw [show (T 16).toNat = 0 by omega]; rfl
      rw [this]; exact ⟨rfl, rfl⟩
  rw [STP, e.1, e.2]
  exact ⟨RFr.rf, ⟨rfl, rfl⟩, h, rfl, rfl, by show l (T 11) = l (T 11) + ((0 : Nat) : Int); omega⟩
theorem STP.pre (h : RT b T l R) (h0 : 0 < T 16) (hk : k ≤ sth (R (T 16 - 1))) (hm : MV T T1 (T 8) (if R (T 16 - 1) = 11 then T 13 - 1 else T 13) (T 16 - 1)) (hk1 : 1 ≤ k) : ((0 ≤ T 11 ∧ T 11 < 6) ∧ (0 ≤ l (T 11) ∧ l (T 11) < 400)) ∧ RT b T1 (xup l (T 11) (l (T 11) + 1)) R := by
  obtain ⟨⟨k1, k2, k3, k4, k5, k6, k7⟩, h13, h10, hw, h16⟩ := h
  have k11 := k1.1
  have hp := OL_pop (R := R) (T1 := T1) h0 hm.2.2.1
  obtain ⟨m1, m2, m3, m4⟩ := hm
  rw [hp] at h13 h10 hw
  have hx : ¬ R (T 16 - 1) = 91 := fun r => by rw [r] at hk; have : k ≤ 0 := hk; omega
  have hd : dpo (R (T 16 - 1) :: OL R T1) = (if R (T 16 - 1) = 11 then 1 else 0) + dpo (OL R T1) := by
    show (if R (T 16 - 1) = 11 ∨ R (T 16 - 1) = 91 then 1 else 0) + dpo (OL R T1) = _
    by_cases c : R (T 16 - 1) = 11
    · rw [if_pos c, if_pos (Or.inl c)]
    · rw [if_neg c, if_neg (by omega)]
  have hw2 : wfs (OL R T1) 0 := by
    unfold wfs at hw
    rw [if_neg hx] at hw
    by_cases c2 : R (T 16 - 1) = 13
    · rw [if_pos c2] at hw; exact wfs_0 hw.2
    · rw [if_neg c2] at hw
      by_cases c3 : R (T 16 - 1) = 12
      · rw [if_pos c3] at hw; exact wfs_0 hw.2
      · rw [if_neg c3] at hw; exact hw.2.2
  have hz := dpo_0 (OL R T1)
  refine ⟨⟨k5, by omega⟩, ⟨by rw [m4 1 (by omega)]; exact k1, by rw [m1, m4 1 (by omega)]; omega, by rw [m4 9 (by omega)]; exact k3, by rw [m4 12 (by omega)]; exact k4, by rw [m4 11 (by omega)]; exact k5, by rw [m4 11 (by omega), m1, xup_same]; omega, by rw [m4 11 (by omega), m1, xup_same]; omega⟩, ?_, ?_, hw2, by rw [m4 11 (by omega), m1, m3, xup_same]; omega⟩
  · rw [m2, h13, hd]
    by_cases c : R (T 16 - 1) = 11
    · rw [if_pos c, if_pos c]; omega
    · rw [if_neg c, if_neg c]; omega
  · rw [hd] at h10
    by_cases c : R (T 16 - 1) = 11
    · rw [if_pos c] at h10; omega
    · rw [if_neg c] at h10; omega
theorem STP.cons (h : RT b T l R) (h0 : 0 < T 16) (hk : k ≤ sth (R (T 16 - 1))) (hm : MV T T1 (T 8) (if R (T 16 - 1) = 11 then T 13 - 1 else T 13) (T 16 - 1)) (hk1 : 1 ≤ k) (hs : STP k b R T1 T2 (xup g (400 * T 11 + l (T 11)) (R (T 16 - 1) + 16 * 0)) g2 (xup l (T 11) (l (T 11) + 1)) l2) : STP k b R T T2 g g2 l l2 := by
  have hb := (STP.pre h h0 hk hm hk1).1
  have hp := OL_pop (R := R) (T1 := T1) h0 hm.2.2.1
  obtain ⟨m1, m2, m3, m4⟩ := hm
  obtain ⟨s1, s2, s3, s4, s5, s6⟩ := hs
  have e11 := m4 11 (by omega)
  have e12 := m4 12 (by omega)
  rw [e11] at s5 s6
  rw [xup_same] at s5 s6
  have e1 : srst k (OL R T) = srst k (OL R T1) ∧ spop k (OL R T) = R (T 16 - 1) :: spop k (OL R T1) := by
    rw [hp]; exact ⟨if_pos hk, if_pos hk⟩
  rw [STP, e1.1, e1.2]
  refine ⟨⟨fun j hj => (s1.1 j hj).trans (m4 j (by omega)), fun j hj => ?_, fun j hj => ?_⟩, ⟨s2.1.trans m1, s2.2.trans e12⟩, s3, s4, ?_, ?_⟩
  · rw [s1.2.1 j (by rw [e11]; exact hj), xup_ne _ _ (by omega)]
  · rw [s1.2.2 j (by rw [e11]; exact hj), xup_ne _ _ hj]
  · rw [s5, show R (T 16 - 1) + 16 * 0 = R (T 16 - 1) by omega, ← Int.add_assoc]; rfl
  · rw [s6, List.length_cons]; omega
end
