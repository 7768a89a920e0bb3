/-! numbers: an Int stands for Int32.ofInt of it -/
theorem xo_toInt {a : Int} (h : xrg a) : (Int32.ofInt a).toInt = a := Int32.toInt_ofInt_of_le (by have := h.1; omega) (by have := h.2; omega)
theorem xo_lt {a b : Int} (ha : xrg a) (hb : xrg b) : Int32.ofInt a < Int32.ofInt b ↔ a < b := by rw [Int32.lt_iff_toInt_lt, xo_toInt ha, xo_toInt hb]
theorem xo_le {a b : Int} (ha : xrg a) (hb : xrg b) : Int32.ofInt a ≤ Int32.ofInt b ↔ a ≤ b := by rw [Int32.le_iff_toInt_le, xo_toInt ha, xo_toInt hb]
theorem xo_eq {a b : Int} (ha : xrg a) (hb : xrg b) : Int32.ofInt a = Int32.ofInt b ↔ a = b := by rw [← Int32.toInt_inj, xo_toInt ha, xo_toInt hb]
theorem xo_0 : Int32.ofInt 0 = 0 := rfl
theorem xo_clamp {a : Int} (h0 : 0 ≤ a) (h1 : a ≤ 2147483647) : (Int32.ofInt a).toNatClampNeg = a.toNat := by
  rw [← Int32.toNat_toInt, xo_toInt ⟨by omega, h1⟩]
theorem xo_in {a : Int} {n : Nat} (h0 : 0 ≤ a) (h1 : a < (n : Int)) (hn : n ≤ 2147483647) : vp_in (Int32.ofInt a) n := by
  unfold vp_in
  rw [xo_clamp h0 (by omega)]
  rintro (h | h)
  · rw [← xo_0, xo_lt ⟨by omega, by omega⟩ ⟨by decide, by decide⟩] at h
    omega
  · omega
theorem xo_nneg {a : Int} (h0 : 0 ≤ a) (h1 : a ≤ 2147483647) : ¬ Int32.ofInt a < 0 := by
  rw [← xo_0, xo_lt ⟨by omega, by omega⟩ ⟨by decide, by decide⟩]
  omega
theorem xo_div {a b : Int} (ha : xrg a) (hb : xrg b) : Int32.ofInt (Int.tdiv a b) = Int32.ofInt a / Int32.ofInt b := Int32.ofInt_tdiv (by have := ha.1; exact this) (by have := ha.2; exact this) (by have := hb.1; exact this) (by have := hb.2; exact this)
theorem xo_rem {a b : Int} (ha : xrg a) (hb : xrg b) : Int32.ofInt (Int.tmod a b) = Int32.ofInt a - Int32.ofInt a / Int32.ofInt b * Int32.ofInt b := by
  rw [← xo_div ha hb, ← Int32.ofInt_mul, ← Int32.ofInt_sub]
  congr 1
  have := Int.mul_tdiv_add_tmod a b
  have h2 : a.tdiv b * b = b * a.tdiv b := Int.mul_comm _ _
  omega
theorem xo_ne0 {b : Int} (hb : xrg b) (h : ¬ b = 0) : ¬ Int32.ofInt b = 0 := by
  rw [← xo_0, xo_eq hb ⟨by decide, by decide⟩]
  exact h
theorem xo_i2l {a : Int} (ha : xrg a) : (Int32.ofInt a).toInt64 = Int64.ofInt a := Int32.toInt64_ofInt (by have := ha.1; exact this) (by have := ha.2; exact this)
theorem xo_and (a b : Int) : Int32.ofInt (xand a b) = Int32.ofInt a &&& Int32.ofInt b := Int32.ofInt_toInt _
theorem xo_ior (a b : Int) : Int32.ofInt (xior a b) = Int32.ofInt a ||| Int32.ofInt b := Int32.ofInt_toInt _
theorem xo_xor (a b : Int) : Int32.ofInt (xxor a b) = Int32.ofInt a ^^^ Int32.ofInt b := Int32.ofInt_toInt _
theorem xo_shl (a b : Int) : Int32.ofInt (xshl a b) = Int32.ofInt a <<< (Int32.ofInt b &&& 31) := Int32.ofInt_toInt _
theorem xo_shr (a b : Int) : Int32.ofInt (xshr a b) = Int32.ofInt a >>> (Int32.ofInt b &&& 31) := Int32.ofInt_toInt _
theorem xo_ush (a b : Int) : Int32.ofInt (xush a b) = ((Int32.ofInt a).toUInt32 >>> ((Int32.ofInt b).toUInt32 &&& Int32.toUInt32 31)).toInt32 := Int32.ofInt_toInt _
theorem xo_i2b (a : Int) : Int32.ofInt (xi2b a) = (Int32.ofInt a).toInt8.toInt32 := Int32.ofInt_toInt _
theorem xo_l2i (a : Int64) : Int32.ofInt (xl2i a) = a.toInt32 := Int32.ofInt_toInt _
theorem xo_lcm (a b : Int64) : Int32.ofInt (xlcm a b) = lg_cmp a b := by
  unfold xlcm lg_cmp
  split
  · rfl
  · split <;> rfl
theorem xo_ofNat (n : Nat) : Int32.ofInt (n : Int) = Int32.ofNat n := Int32.ofInt_eq_ofNat
/-! cells by number -/
theorem xsc_same {α : Type} (F : Nat → α) (c : Nat) (f : α) : xsc F c f c = f := by simp [xsc]
theorem xsc_ne {α : Type} (F : Nat → α) {c i : Nat} (f : α) (h : i ≠ c) : xsc F c f i = F i := by
  have : Nat.beq i c = false := by
    cases hb : Nat.beq i c with
    | false => rfl
    | true => exact absurd (Nat.eq_of_beq_eq_true hb) h
  simp [xsc, this]
theorem xwr_ne {α : Type} (F : Nat → Int → α) {c i : Nat} (j : Int) (v : α) (h : i ≠ c) : xwr F c j v i = F i := xsc_ne F _ h
theorem xwr_same {α : Type} (F : Nat → Int → α) (c : Nat) (j : Int) (v : α) : xwr F c j v c = xup (F c) j v := xsc_same F c _
def xcls : List vw_C := (List.range 13).map (fun i => (cn i, xT i, xNf i))
theorem xcls_at {i : Nat} (h : i < 13) : xcls[i]? = some (cn i, xT i, xNf i) := by simp [xcls, h]
def xtys (cA : Nat → ClassId) : List (ClassId × FieldType) := [(cA 101, .int), (cA 102, .byte), (cA 103, .boolean), (cA 104, .long), (cA 105, .object "RueCake$Rule"), (cA 106, .object "RueCake$State")]
def cv (sz0 : Nat) (tk : Nat → Nat) (v : XV) : Value := match v with
  | .inl a => .int (Int32.ofInt a)
  | .inr (.inl x) => .long x
  | .inr (.inr (.inl r)) => va_rf (r.map (fun i => sz0 + i))
  | .inr (.inr (.inr n)) => .ref (tk n)
def xfv (sz0 : Nat) (I : XI) (L : XL) (P : XP) (i ci k : Nat) : Value := match xKd ci k with
  | 2 => .long (L i (k : Int))
  | 3 => va_rf ((P i (k : Int)).map (fun i => sz0 + i))
  | _ => .int (Int32.ofInt (I i (k : Int)))
def xfs (sz0 : Nat) (I : XI) (L : XL) (P : XP) (i ci : Nat) : List Value := (List.range (xNf ci)).map (xfv sz0 I L P i ci)
def xac (sz0 : Nat) (I : XI) (L : XL) (P : XP) (i tg n : Nat) : vp_A := (n, if tg = 104 then .inr (.inl (fun j => L i (j : Int))) else if 105 ≤ tg then .inr (.inr (.inr (.inr (fun j => (P i (j : Int)).map (fun i => sz0 + i))))) else .inl (fun j => Int32.ofInt (I i (j : Int))))
def xcell (sz0 : Nat) (cA : Nat → ClassId) (I : XI) (L : XL) (G : XG) (i : Nat) : va_E := if 101 ≤ (G.2.1 i).1 then .inl (cA (G.2.1 i).1, xac sz0 I L G.1 i (G.2.1 i).1 (G.2.1 i).2) else .inr ((G.2.1 i).1 - 1, xfs sz0 I L G.1 i ((G.2.1 i).1 - 1))
def xw (sz0 N : Nat) (E : Nat → va_E) : va_W := (List.range N).map (fun i => (sz0 + i, E i))
theorem xw_get {sz0 N : Nat} {E : Nat → va_E} {i : Nat} (h : i < N) : (xw sz0 N E)[i]? = some (sz0 + i, E i) := by simp [xw, h]
theorem xw_set {sz0 N : Nat} {E E' : Nat → va_E} {i : Nat} {x : va_E} (hi : E' i = x) (ho : ∀ j, j ≠ i → E' j = E j) : (xw sz0 N E).set i (sz0 + i, x) = xw sz0 N E' := by
  apply List.ext_getElem?
  intro j
  rw [List.getElem?_set]
  by_cases hj : i = j
  · subst hj
    by_cases hl : i < N
    · rw [if_pos rfl, if_pos (by simp [xw]; exact hl), xw_get hl, hi]
    · simp [xw, hl]
  · rw [if_neg hj]
    by_cases hl : j < N
    · rw [xw_get hl, xw_get hl, ho j (fun q => hj q.symm)]
    · simp [xw, hl]
theorem xw_push {sz0 N : Nat} {E E' : Nat → va_E} {x : va_E} (hi : E' N = x) (ho : ∀ j, j ≠ N → E' j = E j) : xw sz0 N E ++ [(sz0 + N, x)] = xw sz0 (N + 1) E' := by
  unfold xw
  rw [List.range_succ, List.map_append]
  congr 1
  · apply List.map_congr_left
    intro j hj
    rw [ho j (by have := List.mem_range.mp hj; omega)]
  · simp [hi]
theorem xw_D {sz0 N : Nat} {E : Nat → va_E} : va_D (fun q => sz0 ≤ q) (xw sz0 N E) := by
  have key : ∀ (k : Nat) (q : Nat × va_E), (xw sz0 N E)[k]? = some q → q.1 = sz0 + k := by
    intro k q h
    by_cases hl : k < N
    · rw [xw_get hl] at h; cases h; rfl
    · simp [xw, hl] at h
  refine ⟨fun i j p q hp hq h => ?_, fun k q h => ?_⟩
  · have := key i p hp; have := key j q hq; omega
  · have := key k q h; show sz0 ≤ q.1; omega
theorem xfs_at {sz0 : Nat} {I : XI} {L : XL} {P : XP} {i ci k : Nat} (h : k < xNf ci) : (xfs sz0 I L P i ci)[k]? = some (xfv sz0 I L P i ci k) := by simp [xfs, h]
theorem xfs_len {sz0 : Nat} {I : XI} {L : XL} {P : XP} {i ci : Nat} : (xfs sz0 I L P i ci).length = xNf ci := by simp [xfs]
theorem xfs_set {sz0 : Nat} {I I' : XI} {L L' : XL} {P P' : XP} {i ci k : Nat} {v : Value} (hv : xfv sz0 I' L' P' i ci k = v) (ho : ∀ j, j ≠ k → xfv sz0 I' L' P' i ci j = xfv sz0 I L P i ci j) : (xfs sz0 I L P i ci).set k v = xfs sz0 I' L' P' i ci := by
  apply List.ext_getElem?
  intro j
  rw [List.getElem?_set]
  by_cases hj : k = j
  · subst hj
    by_cases hl : k < xNf ci
    · rw [if_pos rfl, if_pos (by rw [xfs_len]; exact hl), xfs_at hl, hv]
    · simp [xfs, hl]
  · rw [if_neg hj]
    by_cases hl : j < xNf ci
    · rw [xfs_at hl, xfs_at hl, ho j (fun q => hj q.symm)]
    · simp [xfs, hl]
/-- the heap as the abstract state has it -/
def xHp (sz0 : Nat) (H00 : Heap) (scr : (Int → Int) × Nat) (dC : Nat → ClassId) (dI : Nat → Nat → Nat) (cA : Nat → ClassId) (I : XI) (L : XL) (G : XG) (H : Heap) : Prop :=
  H.size = sz0 + G.2.2.1 ∧ (∀ i, (G.2.1 i).1 ≠ 0 → i < G.2.2.1) ∧ (∀ i, (G.2.1 i).2 ≤ 1000000) ∧ va_P (dC, dI) xcls (xw sz0 G.2.2.1 (xcell sz0 cA I L G)) H ∧ (∀ q, q < sz0 → H[q]? = H00[q]?) ∧ G.2.2.2 = scr
theorem xHp_obj {sz0 : Nat} {H00 : Heap} {scr : (Int → Int) × Nat} {dC : Nat → ClassId} {dI : Nat → Nat → Nat} {cA : Nat → ClassId} {I : XI} {L : XL} {G : XG} {H : Heap} (h : xHp sz0 H00 scr dC dI cA I L G H) {i ci : Nat} (ht : (G.2.1 i).1 = ci + 1) (hc : ci < 13) : i < G.2.2.1 ∧ (xw sz0 G.2.2.1 (xcell sz0 cA I L G))[i]? = some (sz0 + i, .inr (ci, xfs sz0 I L G.1 i ci)) := by
  have hi := h.2.1 i (by rw [ht]; omega)
  refine ⟨hi, ?_⟩
  rw [xw_get hi]
  unfold xcell
  rw [ht, if_neg (by omega)]
  rfl
theorem xHp_arr {sz0 : Nat} {H00 : Heap} {scr : (Int → Int) × Nat} {dC : Nat → ClassId} {dI : Nat → Nat → Nat} {cA : Nat → ClassId} {I : XI} {L : XL} {G : XG} {H : Heap} (h : xHp sz0 H00 scr dC dI cA I L G H) {i tg : Nat} (ht : (G.2.1 i).1 = tg) (hc : 101 ≤ tg) : i < G.2.2.1 ∧ (xw sz0 G.2.2.1 (xcell sz0 cA I L G))[i]? = some (sz0 + i, .inl (cA tg, xac sz0 I L G.1 i tg (G.2.1 i).2)) := by
  have hi := h.2.1 i (by rw [ht]; omega)
  refine ⟨hi, ?_⟩
  rw [xw_get hi]
  unfold xcell
  rw [ht, if_pos hc]
/-! locals -/
def xun (v : XV) : Bool := match v with
  | .inr (.inr (.inr 0)) => true
  | _ => false
def xLv (sz0 : Nat) (tk : Nat → Nat) (arr : Array Slot) (n : Nat) (ls : List XV) : Prop := ls.length = n ∧ arr.size = n ∧ lv_wf arr ∧ ∀ (i : Nat) (v : XV), ls[i]? = some v → xun v = false → arr[i]? = some (.val (cv sz0 tk v))
def xlv (sz0 : Nat) (tk : Nat → Nat) (ls : List XV) : List (Nat × Value) := (List.range ls.length).filterMap (fun i => match ls[i]? with
  | some v => cond (xun v) none (some (i, cv sz0 tk v))
  | none => none)
theorem xlv_mem {sz0 : Nat} {tk : Nat → Nat} {ls : List XV} {q : Nat × Value} : q ∈ xlv sz0 tk ls ↔ ∃ v, ls[q.1]? = some v ∧ xun v = false ∧ q.2 = cv sz0 tk v := by
  unfold xlv
  rw [List.mem_filterMap]
  constructor
  · rintro ⟨i, -, h⟩
    cases hl : ls[i]? with
    | none => rw [hl] at h; cases h
    | some v =>
      rw [hl] at h
      cases hu : xun v with
      | true => simp [hu] at h
      | false =>
        simp only [hu, cond] at h
        cases h
        exact ⟨v, hl, hu, rfl⟩
  · rintro ⟨v, h1, h2, h3⟩
    refine ⟨q.1, List.mem_range.mpr (List.getElem?_eq_some_iff.mp h1).1, ?_⟩
    rw [h1]
    simp only [h2, cond]
    rw [← h3]
theorem xLv.has {sz0 : Nat} {tk : Nat → Nat} {arr : Array Slot} {n : Nat} {ls : List XV} (h : xLv sz0 tk arr n ls) : lv_has arr n (xlv sz0 tk ls) := by
  refine ⟨h.2.1, h.2.2.1, fun q hq => ?_⟩
  obtain ⟨v, h1, h2, h3⟩ := xlv_mem.mp hq
  rw [h3]
  exact h.2.2.2 q.1 v h1 h2
theorem cv_cat1 {sz0 : Nat} {tk : Nat → Nat} {v : XV} (h : xcat1 v = true) : (cv sz0 tk v).category = 1 := by
  match v with
  | .inl _ => rfl
  | .inr (.inl _) => cases h
  | .inr (.inr (.inl none)) => rfl
  | .inr (.inr (.inl (some _))) => rfl
  | .inr (.inr (.inr _)) => rfl
theorem xLv.st1 {sz0 : Nat} {tk : Nat → Nat} {arr' : Array Slot} {n i : Nat} {ls : List XV} {v : XV} (hn : ls.length = n) (hi : i < n) (h : lv_has arr' n ((i, cv sz0 tk v) :: (xlv sz0 tk ls).filter (fun q => !(q.1 == i) && !(q.1 + 1 == i && q.2.category == 2)))) : xLv sz0 tk arr' n (xst1 ls i v) := by
  have hv : arr'[i]? = some (.val (cv sz0 tk v)) := h.2.2 _ List.mem_cons_self
  have hin : ∀ (j : Nat) (u : XV), ls[j]? = some u → xun u = false → j ≠ i → ¬ (j + 1 = i ∧ (cv sz0 tk u).category = 2) → arr'[j]? = some (.val (cv sz0 tk u)) := by
    intro j u h1 h2 h3 h4
    refine h.2.2 (j, cv sz0 tk u) (List.mem_cons_of_mem _ (List.mem_filter.mpr ⟨xlv_mem.mpr ⟨u, h1, h2, rfl⟩, ?_⟩))
    simp only [Bool.and_eq_true, Bool.not_eq_true', beq_eq_false_iff_ne, ne_eq, Bool.and_eq_false_iff]
    refine ⟨h3, ?_⟩
    by_cases q : j + 1 = i
    · exact Or.inr (fun z => h4 ⟨q, z⟩)
    · exact Or.inl q
  match i, hi, hv, hin with
  | 0, hi, hv, hin =>
    refine ⟨by simp [xst1, hn], h.1, h.2.1, fun j u hj hu => ?_⟩
    simp only [xst1, List.getElem?_set] at hj
    by_cases hz : 0 = j
    · subst hz
      rw [if_pos rfl, if_pos (by omega)] at hj
      cases hj
      exact hv
    · rw [if_neg hz] at hj
      exact hin j u hj hu (fun q => hz q.symm) (fun q => by omega)
  | i + 1, hi, hv, hin =>
    cases hl : ls[i]? with
    | none => exact absurd (List.getElem?_eq_none_iff.mp hl) (by omega)
    | some w =>
      by_cases hw : ∃ x, w = .inr (.inl x)
      · obtain ⟨x, rfl⟩ := hw
        have e : xst1 ls (i + 1) v = (ls.set i (xt 0)).set (i + 1) v := by simp only [xst1, hl]
        rw [e]
        refine ⟨by simp [hn], h.1, h.2.1, fun j u hj hu => ?_⟩
        rw [List.getElem?_set] at hj
        by_cases hz : i + 1 = j
        · subst hz
          rw [if_pos rfl, if_pos (by simp; omega)] at hj
          cases hj
          exact hv
        · rw [if_neg hz, List.getElem?_set] at hj
          by_cases hy : i = j
          · subst hy
            rw [if_pos rfl, if_pos (by omega)] at hj
            cases hj
            cases hu
          · rw [if_neg hy] at hj
            exact hin j u hj hu (fun q => hz q.symm) (fun q => by omega)
      · have e : xst1 ls (i + 1) v = ls.set (i + 1) v := by
          simp only [xst1, hl]
          match w, hw with
          | .inl _, _ => rfl
          | .inr (.inl x), hw => exact absurd ⟨x, rfl⟩ hw
          | .inr (.inr _), _ => rfl
        rw [e]
        refine ⟨by simp [hn], h.1, h.2.1, fun j u hj hu => ?_⟩
        rw [List.getElem?_set] at hj
        by_cases hz : i + 1 = j
        · subst hz
          rw [if_pos rfl, if_pos (by omega)] at hj
          cases hj
          exact hv
        · rw [if_neg hz] at hj
          refine hin j u hj hu (fun q => hz q.symm) (fun q => ?_)
          have hji : j = i := by omega
          subst hji
          rw [hl] at hj
          cases hj
          have : xcat1 w = true := by
            match w, hw with
            | .inl _, _ => rfl
            | .inr (.inl x), hw => exact absurd ⟨x, rfl⟩ hw
            | .inr (.inr (.inl _)), _ => rfl
            | .inr (.inr (.inr _)), _ => rfl
          have := cv_cat1 (sz0 := sz0) (tk := tk) this
          omega
theorem xst1_len (ls : List XV) (i : Nat) (v : XV) : (xst1 ls i v).length = ls.length := by
  match i with
  | 0 => simp [xst1]
  | i + 1 =>
    simp only [xst1]
    split <;> simp
theorem xLv.st2 {sz0 : Nat} {tk : Nat → Nat} {arr' : Array Slot} {n i : Nat} {ls : List XV} {v : XV} (hn : ls.length = n) (hi : i + 1 < n) (h : lv_has arr' n ((i, cv sz0 tk v) :: (xlv sz0 tk ls).filter (fun q => !(q.1 == i) && (!(q.1 == i + 1) && !(q.1 + 1 == i && q.2.category == 2))))) : xLv sz0 tk arr' n (xst2 ls i v) := by
  have e : (xst2 ls i v) = xst1 (ls.set (i + 1) (xt 0)) i v := by
    unfold xst2
    match i with
    | 0 => simp [xst1, List.set_comm]
    | i + 1 =>
      simp only [xst1]
      rw [List.getElem?_set, if_neg (by omega)]
      cases hl : ls[i]? with
      | none => simp [List.set_comm]
      | some w =>
        match w with
        | .inl _ => simp [List.set_comm]
        | .inr (.inl _) =>
          simp only []
          rw [List.set_comm _ _ (show i + 1 ≠ i + 1 + 1 by omega), List.set_comm _ _ (show i ≠ i + 1 + 1 by omega)]
        | .inr (.inr _) => simp [List.set_comm]
  rw [e]
  refine xLv.st1 (by simp [hn]) (by omega) ⟨h.1, h.2.1, fun q hq => ?_⟩
  rcases List.mem_cons.mp hq with rfl | hq
  · exact h.2.2 _ List.mem_cons_self
  · obtain ⟨h1, h2⟩ := List.mem_filter.mp hq
    obtain ⟨u, g1, g2, g3⟩ := xlv_mem.mp h1
    rw [List.getElem?_set] at g1
    by_cases hz : i + 1 = q.1
    · rw [if_pos hz, if_pos (by omega)] at g1
      cases g1
      cases g2
    · rw [if_neg hz] at g1
      refine h.2.2 q (List.mem_cons_of_mem _ (List.mem_filter.mpr ⟨xlv_mem.mpr ⟨u, g1, g2, g3⟩, ?_⟩))
      simp only [Bool.and_eq_true, Bool.not_eq_true', beq_eq_false_iff_ne, ne_eq] at h2 ⊢
      exact ⟨h2.1, fun z => hz z.symm, h2.2⟩
theorem xents_at {sz0 : Nat} {tk : Nat → Nat} : ∀ (as : List XV) (o j : Nat) (u : XV), (xents as)[j]? = some u → xun u = false → (o + j, cv sz0 tk u) ∈ lv_args o (as.map (cv sz0 tk)) := by
  intro as
  induction as with
  | nil => intro o j u h _; simp [xents] at h
  | cons a r ih =>
    intro o j u h hu
    by_cases ha : ∃ x, a = .inr (.inl x)
    · obtain ⟨x, rfl⟩ := ha
      have e : lv_args o ((Sum.inr (Sum.inl x) :: r : List XV).map (cv sz0 tk)) = (o, .long x) :: lv_args (o + 2) (r.map (cv sz0 tk)) := rfl
      rw [e]
      have e2 : xents (Sum.inr (Sum.inl x) :: r) = xl x :: xt 0 :: xents r := rfl
      rw [e2] at h
      match j, h with
      | 0, h => cases h; exact List.mem_cons_self
      | 1, h => cases h; cases hu
      | j + 2, h =>
        have h2 : (xents r)[j]? = some u := h
        have := ih (o + 2) j u h2 hu
        rw [show o + (j + 2) = o + 2 + j by omega]
        exact List.mem_cons_of_mem _ this
    · have hc : xcat1 a = true := by
        match a, ha with
        | .inl _, _ => rfl
        | .inr (.inl x), hw => exact absurd ⟨x, rfl⟩ hw
        | .inr (.inr (.inl _)), _ => rfl
        | .inr (.inr (.inr _)), _ => rfl
      have e : lv_args o ((a :: r : List XV).map (cv sz0 tk)) = (o, cv sz0 tk a) :: lv_args (o + 1) (r.map (cv sz0 tk)) := by
        show (o, cv sz0 tk a) :: lv_args (if (cv sz0 tk a).category = 2 then o + 2 else o + 1) (r.map (cv sz0 tk)) = _
        rw [if_neg (by rw [cv_cat1 hc]; decide)]
      rw [e]
      have e2 : xents (a :: r) = a :: xents r := by
        match a, ha with
        | .inl _, _ => rfl
        | .inr (.inl x), hw => exact absurd ⟨x, rfl⟩ hw
        | .inr (.inr _), _ => rfl
      rw [e2] at h
      match j, h with
      | 0, h => cases h; exact List.mem_cons_self
      | j + 1, h =>
        have h2 : (xents r)[j]? = some u := h
        have := ih (o + 1) j u h2 hu
        rw [show o + (j + 1) = o + 1 + j by omega]
        exact List.mem_cons_of_mem _ this
theorem xents_len {sz0 : Nat} {tk : Nat → Nat} (as : List XV) : (lg_sl (as.map (cv sz0 tk))).length = (xents as).length := by
  induction as with
  | nil => rfl
  | cons a r ih =>
    have e : lg_sl ((a :: r : List XV).map (cv sz0 tk)) = (if (cv sz0 tk a).category = 2 then [.val (cv sz0 tk a), .second] else [.val (cv sz0 tk a)]) ++ lg_sl (r.map (cv sz0 tk)) := by simp [lg_sl]
    rw [e, List.length_append, ih]
    match a with
    | .inl _ => simp [xents, cv, Value.category]; omega
    | .inr (.inl _) => simp [xents, cv, Value.category]; omega
    | .inr (.inr (.inl none)) => simp [xents, cv, va_rf, Value.category]; omega
    | .inr (.inr (.inl (some _))) => simp [xents, cv, va_rf, Value.category]; omega
    | .inr (.inr (.inr _)) => simp [xents, cv, Value.category]; omega
theorem xent_has {sz0 : Nat} {tk : Nat → Nat} {as : List XV} {n : Nat} (h : (xents as).length ≤ n) : xLv sz0 tk ((lg_sl (as.map (cv sz0 tk)) ++ List.replicate (n - (lg_sl (as.map (cv sz0 tk))).length) Slot.unset).toArray) n (xent n as) := by
  have hh := lv_entry (as.map (cv sz0 tk)) (n := n) (by rw [xents_len]; exact h)
  refine ⟨by simp [xent]; omega, hh.1, hh.2.1, fun i v hi hu => ?_⟩
  unfold xent at hi
  by_cases hl : i < (xents as).length
  · rw [List.getElem?_append_left hl] at hi
    have := xents_at (sz0 := sz0) (tk := tk) as 0 i v hi hu
    rw [Nat.zero_add] at this
    exact hh.2.2 _ this
  · rw [List.getElem?_append_right (by omega)] at hi
    have := List.eq_of_mem_replicate (List.mem_of_getElem? hi)
    subst this
    cases hu
