theorem bltT {i n : Nat} (h : i < n) : Nat.blt i n = true := by rw [Nat.blt_eq]; exact h
theorem bltF {i n : Nat} (h : ¬ i < n) : Nat.blt i n = false := by
  cases hb : Nat.blt i n with
  | false => rfl
  | true => exact absurd (Nat.blt_eq.mp hb) h
theorem beqT {i n : Nat} (h : i = n) : Nat.beq i n = true := by subst h; exact Nat.beq_refl _
/-- one rule more -/
def gD1 (r : Nat) (D2 : (Nat → Nat) × (Nat → Nat) × ((Int → Int) × Nat)) (a b : Nat) : GD := (r + 1, (fun k => if k = r then a else D2.1 k), (fun k => if k = r then b else D2.2.1 k), D2.2.2)
def gN3 (r : Nat) (D2 : (Nat → Nat) × (Nat → Nat) × ((Int → Int) × Nat)) (a b : Nat) : XG := xnewG (xnewG (xnewG (gG (r, D2)) (4, 0)) (101, a)) (101, b)
theorem gstep {r : Nat} {D2 : (Nat → Nat) × (Nat → Nat) × ((Int → Int) × Nat)} {a b : Nat} : ((xwr (xwr (xwr (gN3 r D2 a b).1 (126 + 3 * r) 0 (some (126 + 3 * r + 1))) (126 + 3 * r) 1 (some (126 + 3 * r + 2))) 19 (r : Int) (some (126 + 3 * r)), (gN3 r D2 a b).2) : XG) = gG (gD1 r D2 a b) := by
  have hS : xsc (xsc (xsc (gS (r, D2)) (126 + 3 * r) (4, 0)) (126 + 3 * r + 1) (101, a)) (126 + 3 * r + 1 + 1) (101, b) = gS (gD1 r D2 a b) := by
    funext i
    by_cases c0 : i = 126 + 3 * r
    · rw [xsc_ne _ _ (by omega), xsc_ne _ _ (by omega), c0, xsc_same]
      unfold gS
      rw [bltF (by omega), bltT (show 126 + 3 * r < 126 + 3 * (gD1 r D2 a b).1 by show 126 + 3 * r < 126 + 3 * (r + 1); omega), show 126 + 3 * r - 126 = 3 * r by omega, Nat.mul_mod_right]
      rfl
    · by_cases c1 : i = 126 + 3 * r + 1
      · rw [xsc_ne _ _ (by omega), c1, xsc_same]
        unfold gS
        rw [bltF (by omega), bltT (show 126 + 3 * r + 1 < 126 + 3 * (gD1 r D2 a b).1 by show 126 + 3 * r + 1 < 126 + 3 * (r + 1); omega), show (126 + 3 * r + 1 - 126) % 3 = 1 by omega, show (126 + 3 * r + 1 - 126) / 3 = r by omega]
        show (101, a) = (101, if r = r then a else D2.1 r)
        rw [if_pos rfl]
      · by_cases c2 : i = 126 + 3 * r + 1 + 1
        · rw [c2, xsc_same]
          unfold gS
          rw [bltF (by omega), bltT (show 126 + 3 * r + 1 + 1 < 126 + 3 * (gD1 r D2 a b).1 by show 126 + 3 * r + 1 + 1 < 126 + 3 * (r + 1); omega), show (126 + 3 * r + 1 + 1 - 126) % 3 = 2 by omega, show (126 + 3 * r + 1 + 1 - 126) / 3 = r by omega]
          show (101, b) = (101, if r = r then b else D2.2.1 r)
          rw [if_pos rfl]
        · rw [xsc_ne _ _ c2, xsc_ne _ _ c1, xsc_ne _ _ c0]
          unfold gS
          by_cases c3 : i < 126
          · rw [bltT c3]; rfl
          · rw [bltF c3]
            by_cases c4 : i < 126 + 3 * r
            · rw [bltT (show i < 126 + 3 * (gD1 r D2 a b).1 by show i < 126 + 3 * (r + 1); omega), bltT (show i < 126 + 3 * ((r, D2) : GD).1 from c4)]
              have e1 : (gD1 r D2 a b).2.1 ((i - 126) / 3) = D2.1 ((i - 126) / 3) := if_neg (by omega)
              have e2 : (gD1 r D2 a b).2.2.1 ((i - 126) / 3) = D2.2.1 ((i - 126) / 3) := if_neg (by omega)
              rw [e1, e2]
            · rw [bltF (show ¬ i < 126 + 3 * ((r, D2) : GD).1 from c4), bltF (show ¬ i < 126 + 3 * (gD1 r D2 a b).1 by show ¬ i < 126 + 3 * (r + 1); omega)]
              simp only [cond_false]
  have hP : xwr (xwr (xwr (xsc (xsc (xsc (gP (r, D2)) (126 + 3 * r) (fun _ => none)) (126 + 3 * r + 1) (fun _ => none)) (126 + 3 * r + 1 + 1) (fun _ => none)) (126 + 3 * r) 0 (some (126 + 3 * r + 1))) (126 + 3 * r) 1 (some (126 + 3 * r + 2))) 19 (r : Int) (some (126 + 3 * r)) = gP (gD1 r D2 a b) := by
    funext i j
    unfold xwr
    by_cases c9 : i = 19
    · subst c9
      rw [xsc_same, xsc_ne _ _ (by omega), xsc_ne _ _ (by omega), xsc_ne _ _ (by omega), xsc_ne _ _ (by omega), xsc_ne _ _ (by omega)]
      show xup (fun j => if 0 ≤ j ∧ j < (r : Int) then some (126 + 3 * j.toNat) else none) (r : Int) (some (126 + 3 * r)) j = if 0 ≤ j ∧ j < ((r + 1 : Nat) : Int) then some (126 + 3 * j.toNat) else none
      by_cases cj : j = (r : Int)
      · subst cj
        rw [xup_same, if_pos (by omega), Int.toNat_natCast]
      · rw [xup_ne _ _ cj]
        by_cases cj2 : 0 ≤ j ∧ j < (r : Int)
        · rw [if_pos cj2, if_pos (by omega)]
        · rw [if_neg cj2, if_neg (by omega)]
    · rw [xsc_ne _ _ c9]
      by_cases c0 : i = 126 + 3 * r
      · subst c0
        rw [xsc_same, xsc_same, xsc_ne _ _ (by omega), xsc_ne _ _ (by omega), xsc_same]
        unfold gP
        rw [bltF (by omega), bltT (show 126 + 3 * r < 126 + 3 * (gD1 r D2 a b).1 by show 126 + 3 * r < 126 + 3 * (r + 1); omega), show 126 + 3 * r - 126 = 3 * r by omega, Nat.mul_mod_right]
        show xup (xup (fun _ => none) 0 (some (126 + 3 * r + 1))) 1 (some (126 + 3 * r + 2)) j = if j = 0 then some (126 + 3 * r + 1) else if j = 1 then some (126 + 3 * r + 2) else none
        by_cases j1 : j = 1
        · subst j1; rfl
        · rw [xup_ne _ _ j1, if_neg j1]
          by_cases j0 : j = 0
          · subst j0; rfl
          · rw [xup_ne _ _ j0, if_neg j0]
      · rw [xsc_ne _ _ c0, xsc_ne _ _ c0]
        by_cases c1 : i = 126 + 3 * r + 1
        · subst c1
          rw [xsc_ne _ _ (by omega), xsc_same]
          unfold gP
          rw [bltF (by omega), bltT (show 126 + 3 * r + 1 < 126 + 3 * (gD1 r D2 a b).1 by show 126 + 3 * r + 1 < 126 + 3 * (r + 1); omega), show (126 + 3 * r + 1 - 126) % 3 = 1 by omega]
          rfl
        · by_cases c2 : i = 126 + 3 * r + 1 + 1
          · subst c2
            rw [xsc_same]
            unfold gP
            rw [bltF (by omega), bltT (show 126 + 3 * r + 1 + 1 < 126 + 3 * (gD1 r D2 a b).1 by show 126 + 3 * r + 1 + 1 < 126 + 3 * (r + 1); omega), show (126 + 3 * r + 1 + 1 - 126) % 3 = 2 by omega]
            rfl
          · rw [xsc_ne _ _ c2, xsc_ne _ _ c1, xsc_ne _ _ c0]
            unfold gP
            by_cases c3 : i < 126
            · rw [bltT c3, beq_f c9]; rfl
            · rw [bltF c3]
              by_cases c4 : i < 126 + 3 * r
              · rw [bltT (show i < 126 + 3 * (gD1 r D2 a b).1 by show i < 126 + 3 * (r + 1); omega), bltT (show i < 126 + 3 * ((r, D2) : GD).1 from c4)]
                rfl
              · rw [bltF (show ¬ i < 126 + 3 * ((r, D2) : GD).1 from c4), bltF (show ¬ i < 126 + 3 * (gD1 r D2 a b).1 by show ¬ i < 126 + 3 * (r + 1); omega)]
                rfl
  show ((_, (_, (_, _))) : XG) = _
  unfold gN3 xnewG gG
  show ((xwr (xwr (xwr (xsc (xsc (xsc (gP (r, D2)) (126 + 3 * r) (fun _ => none)) (126 + 3 * r + 1) (fun _ => none)) (126 + 3 * r + 1 + 1) (fun _ => none)) (126 + 3 * r) 0 (some (126 + 3 * r + 1))) (126 + 3 * r) 1 (some (126 + 3 * r + 2))) 19 (r : Int) (some (126 + 3 * r)), (xsc (xsc (xsc (gS (r, D2)) (126 + 3 * r) (4, 0)) (126 + 3 * r + 1) (101, a)) (126 + 3 * r + 1 + 1) (101, b), (126 + 3 * r + 1 + 1 + 1, D2.2.2))) : XG) = (gP (gD1 r D2 a b), (gS (gD1 r D2 a b), (126 + 3 * (r + 1), D2.2.2)))
  rw [hP, hS, show 126 + 3 * r + 1 + 1 + 1 = 126 + 3 * (r + 1) by omega]
