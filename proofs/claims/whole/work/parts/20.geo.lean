/-! The steady geometry: the cells that the two constructors make; behind them the rules, three cells each. -/
abbrev GD : Type := Nat × (Nat → Nat) × (Nat → Nat) × ((Int → Int) × Nat)
def gP0t_0 : List (List (Option Nat)) := [[some 1, some 25, some 31, some 19, none, some 6, some 34, some 87, some 88, some 20, some 23, some 92, some 96], [some 2, some 3, some 4, some 5], [], [], [], [], [some 10, some 16, none, none, none, some 7, some 8, some 9], [], [], [], [none, none, none, none, none, some 11, some 12, some 13, some 14, some 15], [], [], [], [], []]
def gP0t_1 : List (List (Option Nat)) := [[some 10, none, none, some 17, some 18], [], [], [], [some 10, some 21, some 22], [], [], [some 10, some 24], [], [none, none, none, none, none, some 26, some 27, some 28, some 29, some 30], [], [], [], [], [], [some 1, some 32, some 33]]
def gP0t_2 : List (List (Option Nat)) := [[], [], [some 35, some 48, some 61, some 74], [some 39, some 45, none, none, none, some 36, some 37, some 38], [], [], [], [none, none, none, none, none, some 40, some 41, some 42, some 43, some 44], [], [], [], [], [], [some 39, none, none, some 46, some 47], [], []]
def gP0t_3 : List (List (Option Nat)) := [[some 52, some 58, none, none, none, some 49, some 50, some 51], [], [], [], [none, none, none, none, none, some 53, some 54, some 55, some 56, some 57], [], [], [], [], [], [some 52, none, none, some 59, some 60], [], [], [some 65, some 71, none, none, none, some 62, some 63, some 64], [], []]
def gP0t_4 : List (List (Option Nat)) := [[], [none, none, none, none, none, some 66, some 67, some 68, some 69, some 70], [], [], [], [], [], [some 65, none, none, some 72, some 73], [], [], [some 78, some 84, none, none, none, some 75, some 76, some 77], [], [], [], [none, none, none, none, none, some 79, some 80, some 81, some 82, some 83], []]
def gP0t_5 : List (List (Option Nat)) := [[], [], [], [], [some 78, none, none, some 85, some 86], [], [], [], [none, none, some 89, some 90, some 91], [], [], [], [some 10, some 16, some 23, some 93, some 94, some 95], [], [], []]
def gP0t_6 : List (List (Option Nat)) := [[some 6, some 10, some 19, some 20, some 23, some 98, some 97], [], [some 10, none, none, some 99, some 100], [], [], [some 102, none, none, some 103, some 104, some 105, some 106, some 107, none, none, none, none, none, none, none, some 108, none, some 109, none, some 110, some 111, none, none, none, some 112, none, some 113, some 114, some 115, none, some 116, none, some 117, some 118, some 119, none, some 120, some 121, none, some 122, some 123, some 124, some 125], [], [], [], [], [], [], [], [], [], []]
def gP0t_7 : List (List (Option Nat)) := [[], [], [], [], [], [], [], [], [], [], [], [], [], []]
def gP0t : List (List (List (Option Nat))) := [gP0t_0, gP0t_1, gP0t_2, gP0t_3, gP0t_4, gP0t_5, gP0t_6, gP0t_7]
def gS0t_0 : List (Nat × Nat) := [(12, 0), (10, 0), (102, 400), (101, 401), (101, 401), (101, 401), (8, 0), (101, 10), (101, 10), (101, 10), (2, 0), (101, 10), (101, 10), (101, 5), (101, 20), (101, 50)]
def gS0t_1 : List (Nat × Nat) := [(9, 0), (101, 10), (101, 5), (105, 6), (11, 0), (104, 12), (104, 60), (7, 0), (101, 25), (2, 0), (101, 10), (101, 10), (101, 5), (101, 20), (101, 50), (5, 0)]
def gS0t_2 : List (Nat × Nat) := [(101, 400), (101, 25), (106, 4), (8, 0), (101, 10), (101, 10), (101, 10), (2, 0), (101, 10), (101, 10), (101, 5), (101, 20), (101, 50), (9, 0), (101, 10), (101, 5)]
def gS0t_3 : List (Nat × Nat) := [(8, 0), (101, 10), (101, 10), (101, 10), (2, 0), (101, 10), (101, 10), (101, 5), (101, 20), (101, 50), (9, 0), (101, 10), (101, 5), (8, 0), (101, 10), (101, 10)]
def gS0t_4 : List (Nat × Nat) := [(101, 10), (2, 0), (101, 10), (101, 10), (101, 5), (101, 20), (101, 50), (9, 0), (101, 10), (101, 5), (8, 0), (101, 10), (101, 10), (101, 10), (2, 0), (101, 10)]
def gS0t_5 : List (Nat × Nat) := [(101, 10), (101, 5), (101, 20), (101, 50), (9, 0), (101, 10), (101, 5), (103, 4), (1, 0), (101, 20), (101, 20), (101, 20), (6, 0), (101, 10), (101, 10), (101, 5)]
def gS0t_6 : List (Nat × Nat) := [(3, 0), (101, 70), (9, 0), (101, 10), (101, 5), (13, 0), (102, 400), (101, 2400), (101, 7), (101, 288), (101, 6), (101, 71), (101, 400), (104, 64), (104, 12), (101, 102)]
def gS0t_7 : List (Nat × Nat) := [(101, 320), (101, 16), (101, 11), (101, 11), (101, 11), (101, 5), (101, 5), (103, 5), (103, 7), (101, 70), (101, 408), (101, 4), (101, 4), (103, 4)]
def gS0t : List (List (Nat × Nat)) := [gS0t_0, gS0t_1, gS0t_2, gS0t_3, gS0t_4, gS0t_5, gS0t_6, gS0t_7]
def gP0 (i : Nat) (j : Int) : Option Nat := (((gP0t.getD (i / 16) []).getD (i % 16) []).getD j.toNat none)
def gS0 (i : Nat) : Nat × Nat := ((gS0t.getD (i / 16) []).getD (i % 16) (0, 0))
def gP (D : GD) : XP := fun i j => cond (Nat.blt i 126) (cond (Nat.beq i 19) (if 0 ≤ j ∧ j < (D.1 : Int) then some (126 + 3 * j.toNat) else none) (if j < 0 then none else gP0 i j)) (cond (Nat.blt i (126 + 3 * D.1)) (cond (Nat.beq ((i - 126) % 3) 0) (if j = 0 then some (i + 1) else if j = 1 then some (i + 2) else none) none) none)
def gS (D : GD) : Nat → Nat × Nat := fun i => cond (Nat.blt i 126) (gS0 i) (cond (Nat.blt i (126 + 3 * D.1)) (cond (Nat.beq ((i - 126) % 3) 0) (4, 0) (cond (Nat.beq ((i - 126) % 3) 1) (101, D.2.1 ((i - 126) / 3)) (101, D.2.2.1 ((i - 126) / 3)))) (0, 0))
def gG (D : GD) : XG := (gP D, (gS D, (126 + 3 * D.1, D.2.2.2)))
/-! contracts in the abstract machine -/
def xM (dl m : Nat) (as : List XV) (I : XI) (L : XL) (G : XG) (b : Nat × Nat) (Q : XQ) : Prop := ∀ d, dl ≤ d → xR d m (mE m) 0 (xent (mL m) as) [] I L G b.1 b.2 Q
/-- one answer, one memory behind it -/
def xD (r : Option XV) (I : XI) (L : XL) (G : XG) : XQ := fun r2 I2 L2 G2 => r2 = r ∧ I2 = I ∧ L2 = L ∧ G2 = G
theorem xD_in {r : Option XV} {I : XI} {L : XL} {G : XG} : xD r I L G r I L G := ⟨rfl, rfl, rfl, rfl⟩
theorem xD_eq {r r2 : Option XV} {I I2 : XI} {L L2 : XL} {G : XG} (h1 : r2 = r) (h2 : I2 = I) (h3 : L2 = L) : xD r I L G r2 I2 L2 G := ⟨h1, h2, h3, rfl⟩
def xcc (st : List XV) (n rt m' kd : Nat) (G : XG) (c c1 s s1 : Nat) : Bool := Nat.ble n st.length && Nat.ble (xents (st.take n).reverse).length (mL m') && (Nat.beq rt 0 || (match st[n - 1]? with
  | some (.inr (.inr (.inl (some i)))) => Nat.beq (G.2.1 i).1 rt
  | _ => false)) && Nat.ble kd 3 && Nat.ble (xwds (st.drop n)) 8 && Nat.ble c1 c && Nat.ble s1 s
def xiv (i : Instr) : Bool := match i with
  | .invokestatic _ => true
  | .invokevirtual _ => true
  | .invokespecial _ => true
  | _ => false
theorem xR_cQ {d m : Nat} {es : List XE} {k : Nat} {ls st : List XV} {I : XI} {L : XL} {G : XG} {c s : Nat} {post Q : XQ} {pc ln m' n j rt c1 s1 kd dl : Nat} {ins : Instr} {vs : List Int} (he : es[k]? = some (pc, ln, ins, [m', n, j, rt, c1, s1, kd], vs)) (hi : xiv ins = true) (hc : xcc st n rt m' kd G c c1 s s1 = true) (hM : xM dl m' (st.take n).reverse I L G (c1, s1) Q) (hd : dl < d) (hk : ∀ r I' L' G', Q r I' L' G' → xR d m es (k + 1) ls (r.toList ++ st.drop n) I' L' G' (c - c1) (s - s1) post) : xR d m es k ls st I L G c s post := by
  apply xR_in
  unfold xstp
  rw [he]
  show xop xR d m es k ins [m', n, j, rt, c1, s1, kd] vs ls st I L G c s post
  have h : xcall xR d m es k [m', n, j, rt, c1, s1, kd] ls st I L G c s post := by
    unfold xcc at hc
    simp only [Bool.and_eq_true, Bool.or_eq_true, Nat.ble_eq] at hc
    obtain ⟨⟨⟨⟨⟨⟨h1, h2⟩, h3⟩, h4⟩, h5⟩, h6⟩, h7⟩ := hc
    refine ⟨⟨h1, h2, ?_, h4⟩, ⟨by omega, h6, h7, h5⟩, Q, hM (d - 1) (by omega), hk⟩
    rcases h3 with h3 | h3
    · exact Or.inl (Nat.eq_of_beq_eq_true h3)
    · refine Or.inr ?_
      split at h3
      · rename_i i heq
        exact ⟨i, heq, Nat.eq_of_beq_eq_true h3⟩
      · cases h3
  cases ins with
  | invokestatic idx => simp only [xop]; first | exact h | (split <;> first | exact h | (rename_i heq; cases heq))
  | invokevirtual idx => simp only [xop]; first | exact h | (split <;> first | exact h | (rename_i heq; cases heq))
  | invokespecial idx => simp only [xop]; first | exact h | (split <;> first | exact h | (rename_i heq; cases heq))
  | _ => cases hi
theorem xR_cF {d m : Nat} {es : List XE} {k : Nat} {ls st : List XV} {I I' : XI} {L L' : XL} {G G' : XG} {c s : Nat} {post : XQ} {r : Option XV} {pc ln m' n j rt c1 s1 kd dl : Nat} {ins : Instr} {vs : List Int} (he : es[k]? = some (pc, ln, ins, [m', n, j, rt, c1, s1, kd], vs)) (hi : xiv ins = true) (hc : xcc st n rt m' kd G c c1 s s1 = true) (hM : xM dl m' (st.take n).reverse I L G (c1, s1) (xD r I' L' G')) (hd : dl < d) (hk : xR d m es (k + 1) ls (r.toList ++ st.drop n) I' L' G' (c - c1) (s - s1) post) : xR d m es k ls st I L G c s post :=
  xR_cQ he hi hc hM hd (fun r2 I2 L2 G2 h => by obtain ⟨rfl, rfl, rfl, rfl⟩ := h; exact hk)
theorem xM.mono {dl dl2 m : Nat} {as : List XV} {I : XI} {L : XL} {G : XG} {b : Nat × Nat} {Q : XQ} (h : xM dl m as I L G b Q) (hd : dl ≤ dl2) : xM dl2 m as I L G b Q := fun d h2 => h d (Nat.le_trans hd h2)
/-- a truth as an int -/
def xb (p : Prop) [Decidable p] : Int := if p then 1 else 0
theorem xb_t {p : Prop} [Decidable p] (h : p) : xb p = 1 := if_pos h
theorem xb_f {p : Prop} [Decidable p] (h : ¬ p) : xb p = 0 := if_neg h
theorem xb_rg (p : Prop) [Decidable p] : -2147483648 ≤ xb p ∧ xb p ≤ 2147483647 := by
  unfold xb
  split <;> decide
theorem xb_01 (p : Prop) [Decidable p] : xb p = 0 ∨ xb p = 1 := by
  unfold xb
  split
  · exact Or.inr rfl
  · exact Or.inl rfl
theorem xb_0 {p : Prop} [Decidable p] (h : xb p = 0) : ¬ p := fun q => by rw [xb_t q] at h; cases h
theorem xb_n0 {p : Prop} [Decidable p] (h : ¬ xb p = 0) : p := Decidable.byContradiction fun q => h (xb_f q)
theorem xb_1 {p : Prop} [Decidable p] (h : xb p = 1) : p := Decidable.byContradiction fun q => by rw [xb_f q] at h; cases h
theorem xb_n1 {p : Prop} [Decidable p] (h : ¬ xb p = 1) : ¬ p := fun q => h (xb_t q)
