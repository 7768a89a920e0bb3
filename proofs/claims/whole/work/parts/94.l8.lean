/-! the class: pieces -/
theorem xa255 : (List.range 256).all (fun i => decide (xand ((i : Int) - 128) 255 = if (i : Int) - 128 < 0 then (i : Int) - 128 + 256 else (i : Int) - 128)) = true := by decide +kernel
theorem xand255 {x : Int} (h0 : -128 ≤ x) (h1 : x ≤ 127) : xand x 255 = if x < 0 then x + 256 else x := by
  have := of_decide_eq_true (List.all_eq_true.mp xa255 (x + 128).toNat (List.mem_range.mpr (by omega)))
  rw [show (((x + 128).toNat : Nat) : Int) - 128 = x by omega] at this
  exact this
theorem tc_val {b : Int → Int} {n p : Int} (h : TPO b n) (p0 : 0 ≤ p) (pn : p < n) : (0 ≤ b p ∧ tc b n p = b p) ∨ (b p < 0 ∧ tc b n p = b p + 256 ∧ 128 ≤ tc b n p) := by
  have hb := h.2 p p0 pn
  unfold tc
  rw [if_pos pn, xand255 hb.1 hb.2]
  by_cases q : b p < 0
  · rw [if_pos q]; right; omega
  · rw [if_neg q]; left; omega
theorem tc_end {b : Int → Int} {n p : Int} (pn : ¬ p < n) : tc b n p = -1 := if_neg pn
theorem tc_dg {b : Int → Int} {n p : Int} (h : TPO b n) (p0 : 0 ≤ p) : (48 ≤ tc b n p ∧ tc b n p ≤ 57) ↔ dgt b n p = true := by
  unfold dgt
  rw [decide_eq_true_eq]
  by_cases pn : p < n
  · have := tc_val h p0 pn
    omega
  · rw [tc_end pn]; omega
theorem tc_lr {b : Int → Int} {n p : Int} (h : TPO b n) (p0 : 0 ≤ p) : (97 ≤ tc b n p ∧ tc b n p ≤ 122) ↔ ltr b n p = true := by
  unfold ltr
  rw [decide_eq_true_eq]
  by_cases pn : p < n
  · have := tc_val h p0 pn
    omega
  · rw [tc_end pn]; omega
theorem tc_bl {b : Int → Int} {n p : Int} (h : TPO b n) (p0 : 0 ≤ p) : tc b n p = 32 ↔ (p < n ∧ b p = 32) := by
  by_cases pn : p < n
  · have := tc_val h p0 pn
    omega
  · rw [tc_end pn]; omega
def tkk (b : Int → Int) (n q : Int) : Int := if ¬ q < n then -1 else if dgt b n q = true then 256 else if ltr b n q = true then (if tw b n q = -1 then 257 else 260 + tw b n q) else if (tc b n q = 60 ∨ tc b n q = 62) ∧ tc b n (q + 1) = 61 then (if tc b n q = 60 then 258 else 259) else tc b n q
def tke (b : Int → Int) (n q : Int) : Int := if ¬ q < n then q else if dgt b n q = true then de_ b n q else if ltr b n q = true then le_ b n q else if (tc b n q = 60 ∨ tc b n q = 62) ∧ tc b n (q + 1) = 61 then q + 2 else q + 1
def tkv (b : Int → Int) (n q : Int) : Int := if dgt b n q = true then tnv b n q else -1
def nxt (b : Int → Int) (n q : Int) : Int := sk b n (tke b n q)
def TKS (b : Int → Int) (n : Int) (Pc Pl Nm : Int → Int) (cnt : Int) : Prop := (1 ≤ cnt ∧ cnt ≤ 401) ∧ Pl 0 = sk b n 0 ∧ Pl (cnt - 1) = n ∧ ∀ i, 0 ≤ i → i < cnt → (0 ≤ Pl i ∧ Pl i ≤ n) ∧ Pc i = tkk b n (Pl i) ∧ Nm i = tkv b n (Pl i) ∧ (i + 1 < cnt → Pl (i + 1) = nxt b n (Pl i))
def TXT (T b Pc Pl Nm : Int → Int) : Prop := TPO b (T 6) ∧ TKS b (T 6) Pc Pl Nm (T 4) ∧ (0 ≤ T 5 ∧ T 5 < T 4) ∧ Pl (T 5) = T 9 ∧ T 7 = tkk b (T 6) (T 9) ∧ T 8 = tkv b (T 6) (T 9)
theorem tke_in {b : Int → Int} {n q : Int} (qn : q < n) : q < tke b n q ∧ tke b n q ≤ n := by
  unfold tke
  rw [if_neg (fun r => r qn)]
  have h1 := de_all (b := b) (n := n) (p := q)
  have h2 := le_all (b := b) (n := n) (p := q)
  by_cases d : dgt b n q = true
  · rw [if_pos d]
    have : ¬ de_ b n q = q := fun e => h1.2.2 (by rw [e]; exact d)
    have := h1.1.2 (by omega)
    omega
  · rw [if_neg d]
    by_cases l : ltr b n q = true
    · rw [if_pos l]
      have : ¬ le_ b n q = q := fun e => h2.2.2 (by rw [e]; exact l)
      have := h2.1.2 (by omega)
      omega
    · rw [if_neg l]
      by_cases c : (tc b n q = 60 ∨ tc b n q = 62) ∧ tc b n (q + 1) = 61
      · rw [if_pos c]
        have : q + 1 < n := by
          refine Classical.byContradiction fun r => ?_
          have := c.2
          rw [tc_end r] at this
          omega
        omega
      · rw [if_neg c]; omega
theorem nxt_in {b : Int → Int} {n q : Int} (qn : q ≤ n) : q ≤ nxt b n q ∧ nxt b n q ≤ n := by
  unfold nxt
  by_cases h : q < n
  · have h1 := tke_in (b := b) h
    have h2 := sk_in (b := b) (p := tke b n q) (n := n) (by omega)
    omega
  · have e : tke b n q = q := if_pos h
    rw [e]
    exact sk_in qn
def inm (b : Int → Int) (n nm q e : Int) : Bool := !(pany (fun j => decide (¬ xch (nm + (j : Int)) = if q + (j : Int) < e then tc b n (q + (j : Int)) else 32)) 7 0)
theorem inm_iff {b : Int → Int} {n nm q e : Int} : inm b n nm q e = true ↔ ∀ j : Nat, j < 7 → xch (nm + (j : Int)) = if q + (j : Int) < e then tc b n (q + (j : Int)) else 32 := by
  unfold inm
  rw [Bool.not_eq_true', Bool.eq_false_iff, ne_eq, pany_iff]
  constructor
  · intro h j hj
    refine Classical.byContradiction fun r => h ⟨j, by omega, by omega, decide_eq_true r⟩
  · rintro h ⟨j, _, j1, j2⟩
    exact (of_decide_eq_true j2) (h j (by omega))
theorem inm_0 {b : Int → Int} {n q : Int} (hT : TPO b n) (q0 : 0 ≤ q) : (le_ b n q - q ≤ 7 ∧ inm b n ((0 : Int) * 7) q (le_ b n q) = true) ↔ tw b n q = 0 := by
  have ha := le_all (b := b) (n := n) (p := q)
  have hb : ∀ j : Nat, q + (j : Int) < le_ b n q → (97 ≤ b (q + (j : Int)) ∧ b (q + (j : Int)) ≤ 122) ∧ tc b n (q + (j : Int)) = b (q + (j : Int)) := by
    intro j hj
    have h1 := of_decide_eq_true (ha.2.1 (q + (j : Int)) (by omega) hj)
    have h2 := tc_val hT (p := q + (j : Int)) (by omega) h1.1
    omega
  rw [inm_iff]
  unfold tw
  have x0 : xch ((0 : Int) * 7 + ((0 : Nat) : Int)) = 103 := by decide
  have x1 : xch ((0 : Int) * 7 + ((1 : Nat) : Int)) = 117 := by decide
  have x2 : xch ((0 : Int) * 7 + ((2 : Nat) : Int)) = 101 := by decide
  have x3 : xch ((0 : Int) * 7 + ((3 : Nat) : Int)) = 115 := by decide
  have x4 : xch ((0 : Int) * 7 + ((4 : Nat) : Int)) = 116 := by decide
  have x5 : xch ((0 : Int) * 7 + ((5 : Nat) : Int)) = 32 := by decide
  have x6 : xch ((0 : Int) * 7 + ((6 : Nat) : Int)) = 32 := by decide
  constructor
  · rintro ⟨h7, h⟩
    have y0 := h 0 (by decide)
    rw [x0] at y0
    have z0 := hb 0
    have y1 := h 1 (by decide)
    rw [x1] at y1
    have z1 := hb 1
    have y2 := h 2 (by decide)
    rw [x2] at y2
    have z2 := hb 2
    have y3 := h 3 (by decide)
    rw [x3] at y3
    have z3 := hb 3
    have y4 := h 4 (by decide)
    rw [x4] at y4
    have z4 := hb 4
    have y5 := h 5 (by decide)
    rw [x5] at y5
    have z5 := hb 5
    have y6 := h 6 (by decide)
    rw [x6] at y6
    have z6 := hb 6
    have l0 : q + ((0 : Nat) : Int) < le_ b n q := Classical.byContradiction fun r => by rw [if_neg r] at y0; omega
    rw [if_pos l0, (z0 l0).2] at y0
    have l1 : q + ((1 : Nat) : Int) < le_ b n q := Classical.byContradiction fun r => by rw [if_neg r] at y1; omega
    rw [if_pos l1, (z1 l1).2] at y1
    have l2 : q + ((2 : Nat) : Int) < le_ b n q := Classical.byContradiction fun r => by rw [if_neg r] at y2; omega
    rw [if_pos l2, (z2 l2).2] at y2
    have l3 : q + ((3 : Nat) : Int) < le_ b n q := Classical.byContradiction fun r => by rw [if_neg r] at y3; omega
    rw [if_pos l3, (z3 l3).2] at y3
    have l4 : q + ((4 : Nat) : Int) < le_ b n q := Classical.byContradiction fun r => by rw [if_neg r] at y4; omega
    rw [if_pos l4, (z4 l4).2] at y4
    have l5 : ¬ q + ((5 : Nat) : Int) < le_ b n q := fun r => by rw [if_pos r] at y5; have := z5 r; omega
    have l6 : ¬ q + ((6 : Nat) : Int) < le_ b n q := fun r => by rw [if_pos r] at y6; have := z6 r; omega
    have el : (le_ b n q - q).toNat = 5 := by omega
    rw [if_pos (by omega), el, tws_0]
    show (256 * (256 * (256 * (256 * (256 * 0 + b (q + ((0 : Nat) : Int))) + b (q + ((1 : Nat) : Int))) + b (q + ((2 : Nat) : Int))) + b (q + ((3 : Nat) : Int))) + b (q + ((4 : Nat) : Int))) = 444351214452
    omega
  · intro h
    by_cases hl : 0 < le_ b n q - q ∧ le_ b n q - q < 8
    · rw [if_pos hl, tws_0] at h
      have z0 := hb 0
      have z1 := hb 1
      have z2 := hb 2
      have z3 := hb 3
      have z4 := hb 4
      have z5 := hb 5
      have z6 := hb 6
      have hc : (le_ b n q - q).toNat = 1 ∨ (le_ b n q - q).toNat = 2 ∨ (le_ b n q - q).toNat = 3 ∨ (le_ b n q - q).toNat = 4 ∨ (le_ b n q - q).toNat = 5 ∨ (le_ b n q - q).toNat = 6 ∨ (le_ b n q - q).toNat = 7 := by omega
      rcases hc with el | el | el | el | el | el | el
      · rw [el] at h
        have h2 : (256 * 0 + b (q + ((0 : Nat) : Int))) = 444351214452 := h
        have v0 := z0 (by omega)
        omega
      · rw [el] at h
        have h2 : (256 * (256 * 0 + b (q + ((0 : Nat) : Int))) + b (q + ((1 : Nat) : Int))) = 444351214452 := h
        have v0 := z0 (by omega)
        have v1 := z1 (by omega)
        omega
      · rw [el] at h
        have h2 : (256 * (256 * (256 * 0 + b (q + ((0 : Nat) : Int))) + b (q + ((1 : Nat) : Int))) + b (q + ((2 : Nat) : Int))) = 444351214452 := h
        have v0 := z0 (by omega)
        have v1 := z1 (by omega)
        have v2 := z2 (by omega)
        omega
      · rw [el] at h
        have h2 : (256 * (256 * (256 * (256 * 0 + b (q + ((0 : Nat) : Int))) + b (q + ((1 : Nat) : Int))) + b (q + ((2 : Nat) : Int))) + b (q + ((3 : Nat) : Int))) = 444351214452 := h
        have v0 := z0 (by omega)
        have v1 := z1 (by omega)
        have v2 := z2 (by omega)
        have v3 := z3 (by omega)
        omega
      · rw [el] at h
        have h2 : (256 * (256 * (256 * (256 * (256 * 0 + b (q + ((0 : Nat) : Int))) + b (q + ((1 : Nat) : Int))) + b (q + ((2 : Nat) : Int))) + b (q + ((3 : Nat) : Int))) + b (q + ((4 : Nat) : Int))) = 444351214452 := h
        have v0 := z0 (by omega)
        have v1 := z1 (by omega)
        have v2 := z2 (by omega)
        have v3 := z3 (by omega)
        have v4 := z4 (by omega)
        refine ⟨by omega, fun j hj => ?_⟩
        have hj7 : j = 0 ∨ j = 1 ∨ j = 2 ∨ j = 3 ∨ j = 4 ∨ j = 5 ∨ j = 6 := by omega
        rcases hj7 with r | r | r | r | r | r | r <;> subst r
        · rw [x0, if_pos (by omega), v0.2]; omega
        · rw [x1, if_pos (by omega), v1.2]; omega
        · rw [x2, if_pos (by omega), v2.2]; omega
        · rw [x3, if_pos (by omega), v3.2]; omega
        · rw [x4, if_pos (by omega), v4.2]; omega
        · rw [x5, if_neg (by omega)]
        · rw [x6, if_neg (by omega)]
      · rw [el] at h
        have h2 : (256 * (256 * (256 * (256 * (256 * (256 * 0 + b (q + ((0 : Nat) : Int))) + b (q + ((1 : Nat) : Int))) + b (q + ((2 : Nat) : Int))) + b (q + ((3 : Nat) : Int))) + b (q + ((4 : Nat) : Int))) + b (q + ((5 : Nat) : Int))) = 444351214452 := h
        have v0 := z0 (by omega)
        have v1 := z1 (by omega)
        have v2 := z2 (by omega)
        have v3 := z3 (by omega)
        have v4 := z4 (by omega)
        have v5 := z5 (by omega)
        omega
      · rw [el] at h
        have h2 : (256 * (256 * (256 * (256 * (256 * (256 * (256 * 0 + b (q + ((0 : Nat) : Int))) + b (q + ((1 : Nat) : Int))) + b (q + ((2 : Nat) : Int))) + b (q + ((3 : Nat) : Int))) + b (q + ((4 : Nat) : Int))) + b (q + ((5 : Nat) : Int))) + b (q + ((6 : Nat) : Int))) = 444351214452 := h
        have v0 := z0 (by omega)
        have v1 := z1 (by omega)
        have v2 := z2 (by omega)
        have v3 := z3 (by omega)
        have v4 := z4 (by omega)
        have v5 := z5 (by omega)
        have v6 := z6 (by omega)
        omega
    · rw [if_neg hl] at h; omega
theorem inm_1 {b : Int → Int} {n q : Int} (hT : TPO b n) (q0 : 0 ≤ q) : (le_ b n q - q ≤ 7 ∧ inm b n ((1 : Int) * 7) q (le_ b n q) = true) ↔ tw b n q = 1 := by
  have ha := le_all (b := b) (n := n) (p := q)
  have hb : ∀ j : Nat, q + (j : Int) < le_ b n q → (97 ≤ b (q + (j : Int)) ∧ b (q + (j : Int)) ≤ 122) ∧ tc b n (q + (j : Int)) = b (q + (j : Int)) := by
    intro j hj
    have h1 := of_decide_eq_true (ha.2.1 (q + (j : Int)) (by omega) hj)
    have h2 := tc_val hT (p := q + (j : Int)) (by omega) h1.1
    omega
  rw [inm_iff]
  unfold tw
  have x0 : xch ((1 : Int) * 7 + ((0 : Nat) : Int)) = 115 := by decide
  have x1 : xch ((1 : Int) * 7 + ((1 : Nat) : Int)) = 108 := by decide
  have x2 : xch ((1 : Int) * 7 + ((2 : Nat) : Int)) = 105 := by decide
  have x3 : xch ((1 : Int) * 7 + ((3 : Nat) : Int)) = 99 := by decide
  have x4 : xch ((1 : Int) * 7 + ((4 : Nat) : Int)) = 101 := by decide
  have x5 : xch ((1 : Int) * 7 + ((5 : Nat) : Int)) = 32 := by decide
  have x6 : xch ((1 : Int) * 7 + ((6 : Nat) : Int)) = 32 := by decide
  constructor
  · rintro ⟨h7, h⟩
    have y0 := h 0 (by decide)
    rw [x0] at y0
    have z0 := hb 0
    have y1 := h 1 (by decide)
    rw [x1] at y1
    have z1 := hb 1
    have y2 := h 2 (by decide)
    rw [x2] at y2
    have z2 := hb 2
    have y3 := h 3 (by decide)
    rw [x3] at y3
    have z3 := hb 3
    have y4 := h 4 (by decide)
    rw [x4] at y4
    have z4 := hb 4
    have y5 := h 5 (by decide)
    rw [x5] at y5
    have z5 := hb 5
    have y6 := h 6 (by decide)
    rw [x6] at y6
    have z6 := hb 6
    have l0 : q + ((0 : Nat) : Int) < le_ b n q := Classical.byContradiction fun r => by rw [if_neg r] at y0; omega
    rw [if_pos l0, (z0 l0).2] at y0
    have l1 : q + ((1 : Nat) : Int) < le_ b n q := Classical.byContradiction fun r => by rw [if_neg r] at y1; omega
    rw [if_pos l1, (z1 l1).2] at y1
    have l2 : q + ((2 : Nat) : Int) < le_ b n q := Classical.byContradiction fun r => by rw [if_neg r] at y2; omega
    rw [if_pos l2, (z2 l2).2] at y2
    have l3 : q + ((3 : Nat) : Int) < le_ b n q := Classical.byContradiction fun r => by rw [if_neg r] at y3; omega
    rw [if_pos l3, (z3 l3).2] at y3
    have l4 : q + ((4 : Nat) : Int) < le_ b n q := Classical.byContradiction fun r => by rw [if_neg r] at y4; omega
    rw [if_pos l4, (z4 l4).2] at y4
    have l5 : ¬ q + ((5 : Nat) : Int) < le_ b n q := fun r => by rw [if_pos r] at y5; have := z5 r; omega
    have l6 : ¬ q + ((6 : Nat) : Int) < le_ b n q := fun r => by rw [if_pos r] at y6; have := z6 r; omega
    have el : (le_ b n q - q).toNat = 5 := by omega
    rw [if_pos (by omega), el, tws_1]
    show (256 * (256 * (256 * (256 * (256 * 0 + b (q + ((0 : Nat) : Int))) + b (q + ((1 : Nat) : Int))) + b (q + ((2 : Nat) : Int))) + b (q + ((3 : Nat) : Int))) + b (q + ((4 : Nat) : Int))) = 495740085093
    omega
  · intro h
    by_cases hl : 0 < le_ b n q - q ∧ le_ b n q - q < 8
    · rw [if_pos hl, tws_1] at h
      have z0 := hb 0
      have z1 := hb 1
      have z2 := hb 2
      have z3 := hb 3
      have z4 := hb 4
      have z5 := hb 5
      have z6 := hb 6
      have hc : (le_ b n q - q).toNat = 1 ∨ (le_ b n q - q).toNat = 2 ∨ (le_ b n q - q).toNat = 3 ∨ (le_ b n q - q).toNat = 4 ∨ (le_ b n q - q).toNat = 5 ∨ (le_ b n q - q).toNat = 6 ∨ (le_ b n q - q).toNat = 7 := by omega
      rcases hc with el | el | el | el | el | el | el
      · rw [el] at h
        have h2 : (256 * 0 + b (q + ((0 : Nat) : Int))) = 495740085093 := h
        have v0 := z0 (by omega)
        omega
      · rw [el] at h
        have h2 : (256 * (256 * 0 + b (q + ((0 : Nat) : Int))) + b (q + ((1 : Nat) : Int))) = 495740085093 := h
        have v0 := z0 (by omega)
        have v1 := z1 (by omega)
        omega
      · rw [el] at h
        have h2 : (256 * (256 * (256 * 0 + b (q + ((0 : Nat) : Int))) + b (q + ((1 : Nat) : Int))) + b (q + ((2 : Nat) : Int))) = 495740085093 := h
        have v0 := z0 (by omega)
        have v1 := z1 (by omega)
        have v2 := z2 (by omega)
        omega
      · rw [el] at h
        have h2 : (256 * (256 * (256 * (256 * 0 + b (q + ((0 : Nat) : Int))) + b (q + ((1 : Nat) : Int))) + b (q + ((2 : Nat) : Int))) + b (q + ((3 : Nat) : Int))) = 495740085093 := h
        have v0 := z0 (by omega)
        have v1 := z1 (by omega)
        have v2 := z2 (by omega)
        have v3 := z3 (by omega)
        omega
      · rw [el] at h
        have h2 : (256 * (256 * (256 * (256 * (256 * 0 + b (q + ((0 : Nat) : Int))) + b (q + ((1 : Nat) : Int))) + b (q + ((2 : Nat) : Int))) + b (q + ((3 : Nat) : Int))) + b (q + ((4 : Nat) : Int))) = 495740085093 := h
        have v0 := z0 (by omega)
        have v1 := z1 (by omega)
        have v2 := z2 (by omega)
        have v3 := z3 (by omega)
        have v4 := z4 (by omega)
        refine ⟨by omega, fun j hj => ?_⟩
        have hj7 : j = 0 ∨ j = 1 ∨ j = 2 ∨ j = 3 ∨ j = 4 ∨ j = 5 ∨ j = 6 := by omega
        rcases hj7 with r | r | r | r | r | r | r <;> subst r
        · rw [x0, if_pos (by omega), v0.2]; omega
        · rw [x1, if_pos (by omega), v1.2]; omega
        · rw [x2, if_pos (by omega), v2.2]; omega
        · rw [x3, if_pos (by omega), v3.2]; omega
        · rw [x4, if_pos (by omega), v4.2]; omega
        · rw [x5, if_neg (by omega)]
        · rw [x6, if_neg (by omega)]
      · rw [el] at h
        have h2 : (256 * (256 * (256 * (256 * (256 * (256 * 0 + b (q + ((0 : Nat) : Int))) + b (q + ((1 : Nat) : Int))) + b (q + ((2 : Nat) : Int))) + b (q + ((3 : Nat) : Int))) + b (q + ((4 : Nat) : Int))) + b (q + ((5 : Nat) : Int))) = 495740085093 := h
        have v0 := z0 (by omega)
        have v1 := z1 (by omega)
        have v2 := z2 (by omega)
        have v3 := z3 (by omega)
        have v4 := z4 (by omega)
        have v5 := z5 (by omega)
        omega
      · rw [el] at h
        have h2 : (256 * (256 * (256 * (256 * (256 * (256 * (256 * 0 + b (q + ((0 : Nat) : Int))) + b (q + ((1 : Nat) : Int))) + b (q + ((2 : Nat) : Int))) + b (q + ((3 : Nat) : Int))) + b (q + ((4 : Nat) : Int))) + b (q + ((5 : Nat) : Int))) + b (q + ((6 : Nat) : Int))) = 495740085093 := h
        have v0 := z0 (by omega)
        have v1 := z1 (by omega)
        have v2 := z2 (by omega)
        have v3 := z3 (by omega)
        have v4 := z4 (by omega)
        have v5 := z5 (by omega)
        have v6 := z6 (by omega)
        omega
    · rw [if_neg hl] at h; omega
theorem inm_2 {b : Int → Int} {n q : Int} (hT : TPO b n) (q0 : 0 ≤ q) : (le_ b n q - q ≤ 7 ∧ inm b n ((2 : Int) * 7) q (le_ b n q) = true) ↔ tw b n q = 2 := by
  have ha := le_all (b := b) (n := n) (p := q)
  have hb : ∀ j : Nat, q + (j : Int) < le_ b n q → (97 ≤ b (q + (j : Int)) ∧ b (q + (j : Int)) ≤ 122) ∧ tc b n (q + (j : Int)) = b (q + (j : Int)) := by
    intro j hj
    have h1 := of_decide_eq_true (ha.2.1 (q + (j : Int)) (by omega) hj)
    have h2 := tc_val hT (p := q + (j : Int)) (by omega) h1.1
    omega
  rw [inm_iff]
  unfold tw
  have x0 : xch ((2 : Int) * 7 + ((0 : Nat) : Int)) = 107 := by decide
  have x1 : xch ((2 : Int) * 7 + ((1 : Nat) : Int)) = 105 := by decide
  have x2 : xch ((2 : Int) * 7 + ((2 : Nat) : Int)) = 110 := by decide
  have x3 : xch ((2 : Int) * 7 + ((3 : Nat) : Int)) = 100 := by decide
  have x4 : xch ((2 : Int) * 7 + ((4 : Nat) : Int)) = 32 := by decide
  have x5 : xch ((2 : Int) * 7 + ((5 : Nat) : Int)) = 32 := by decide
  have x6 : xch ((2 : Int) * 7 + ((6 : Nat) : Int)) = 32 := by decide
  constructor
  · rintro ⟨h7, h⟩
    have y0 := h 0 (by decide)
    rw [x0] at y0
    have z0 := hb 0
    have y1 := h 1 (by decide)
    rw [x1] at y1
    have z1 := hb 1
    have y2 := h 2 (by decide)
    rw [x2] at y2
    have z2 := hb 2
    have y3 := h 3 (by decide)
    rw [x3] at y3
    have z3 := hb 3
    have y4 := h 4 (by decide)
    rw [x4] at y4
    have z4 := hb 4
    have y5 := h 5 (by decide)
    rw [x5] at y5
    have z5 := hb 5
    have y6 := h 6 (by decide)
    rw [x6] at y6
    have z6 := hb 6
    have l0 : q + ((0 : Nat) : Int) < le_ b n q := Classical.byContradiction fun r => by rw [if_neg r] at y0; omega
    rw [if_pos l0, (z0 l0).2] at y0
    have l1 : q + ((1 : Nat) : Int) < le_ b n q := Classical.byContradiction fun r => by rw [if_neg r] at y1; omega
    rw [if_pos l1, (z1 l1).2] at y1
    have l2 : q + ((2 : Nat) : Int) < le_ b n q := Classical.byContradiction fun r => by rw [if_neg r] at y2; omega
    rw [if_pos l2, (z2 l2).2] at y2
    have l3 : q + ((3 : Nat) : Int) < le_ b n q := Classical.byContradiction fun r => by rw [if_neg r] at y3; omega
    rw [if_pos l3, (z3 l3).2] at y3
    have l4 : ¬ q + ((4 : Nat) : Int) < le_ b n q := fun r => by rw [if_pos r] at y4; have := z4 r; omega
    have l5 : ¬ q + ((5 : Nat) : Int) < le_ b n q := fun r => by rw [if_pos r] at y5; have := z5 r; omega
    have l6 : ¬ q + ((6 : Nat) : Int) < le_ b n q := fun r => by rw [if_pos r] at y6; have := z6 r; omega
    have el : (le_ b n q - q).toNat = 4 := by omega
    rw [if_pos (by omega), el, tws_2]
    show (256 * (256 * (256 * (256 * 0 + b (q + ((0 : Nat) : Int))) + b (q + ((1 : Nat) : Int))) + b (q + ((2 : Nat) : Int))) + b (q + ((3 : Nat) : Int))) = 1802071652
    omega
  · intro h
    by_cases hl : 0 < le_ b n q - q ∧ le_ b n q - q < 8
    · rw [if_pos hl, tws_2] at h
      have z0 := hb 0
      have z1 := hb 1
      have z2 := hb 2
      have z3 := hb 3
      have z4 := hb 4
      have z5 := hb 5
      have z6 := hb 6
      have hc : (le_ b n q - q).toNat = 1 ∨ (le_ b n q - q).toNat = 2 ∨ (le_ b n q - q).toNat = 3 ∨ (le_ b n q - q).toNat = 4 ∨ (le_ b n q - q).toNat = 5 ∨ (le_ b n q - q).toNat = 6 ∨ (le_ b n q - q).toNat = 7 := by omega
      rcases hc with el | el | el | el | el | el | el
      · rw [el] at h
        have h2 : (256 * 0 + b (q + ((0 : Nat) : Int))) = 1802071652 := h
        have v0 := z0 (by omega)
        omega
      · rw [el] at h
        have h2 : (256 * (256 * 0 + b (q + ((0 : Nat) : Int))) + b (q + ((1 : Nat) : Int))) = 1802071652 := h
        have v0 := z0 (by omega)
        have v1 := z1 (by omega)
        omega
      · rw [el] at h
        have h2 : (256 * (256 * (256 * 0 + b (q + ((0 : Nat) : Int))) + b (q + ((1 : Nat) : Int))) + b (q + ((2 : Nat) : Int))) = 1802071652 := h
        have v0 := z0 (by omega)
        have v1 := z1 (by omega)
        have v2 := z2 (by omega)
        omega
      · rw [el] at h
        have h2 : (256 * (256 * (256 * (256 * 0 + b (q + ((0 : Nat) : Int))) + b (q + ((1 : Nat) : Int))) + b (q + ((2 : Nat) : Int))) + b (q + ((3 : Nat) : Int))) = 1802071652 := h
        have v0 := z0 (by omega)
        have v1 := z1 (by omega)
        have v2 := z2 (by omega)
        have v3 := z3 (by omega)
        refine ⟨by omega, fun j hj => ?_⟩
        have hj7 : j = 0 ∨ j = 1 ∨ j = 2 ∨ j = 3 ∨ j = 4 ∨ j = 5 ∨ j = 6 := by omega
        rcases hj7 with r | r | r | r | r | r | r <;> subst r
        · rw [x0, if_pos (by omega), v0.2]; omega
        · rw [x1, if_pos (by omega), v1.2]; omega
        · rw [x2, if_pos (by omega), v2.2]; omega
        · rw [x3, if_pos (by omega), v3.2]; omega
        · rw [x4, if_neg (by omega)]
        · rw [x5, if_neg (by omega)]
        · rw [x6, if_neg (by omega)]
      · rw [el] at h
        have h2 : (256 * (256 * (256 * (256 * (256 * 0 + b (q + ((0 : Nat) : Int))) + b (q + ((1 : Nat) : Int))) + b (q + ((2 : Nat) : Int))) + b (q + ((3 : Nat) : Int))) + b (q + ((4 : Nat) : Int))) = 1802071652 := h
        have v0 := z0 (by omega)
        have v1 := z1 (by omega)
        have v2 := z2 (by omega)
        have v3 := z3 (by omega)
        have v4 := z4 (by omega)
        omega
      · rw [el] at h
        have h2 : (256 * (256 * (256 * (256 * (256 * (256 * 0 + b (q + ((0 : Nat) : Int))) + b (q + ((1 : Nat) : Int))) + b (q + ((2 : Nat) : Int))) + b (q + ((3 : Nat) : Int))) + b (q + ((4 : Nat) : Int))) + b (q + ((5 : Nat) : Int))) = 1802071652 := h
        have v0 := z0 (by omega)
        have v1 := z1 (by omega)
        have v2 := z2 (by omega)
        have v3 := z3 (by omega)
        have v4 := z4 (by omega)
        have v5 := z5 (by omega)
        omega
      · rw [el] at h
        have h2 : (256 * (256 * (256 * (256 * (256 * (256 * (256 * 0 + b (q + ((0 : Nat) : Int))) + b (q + ((1 : Nat) : Int))) + b (q + ((2 : Nat) : Int))) + b (q + ((3 : Nat) : Int))) + b (q + ((4 : Nat) : Int))) + b (q + ((5 : Nat) : Int))) + b (q + ((6 : Nat) : Int))) = 1802071652 := h
        have v0 := z0 (by omega)
        have v1 := z1 (by omega)
        have v2 := z2 (by omega)
        have v3 := z3 (by omega)
        have v4 := z4 (by omega)
        have v5 := z5 (by omega)
        have v6 := z6 (by omega)
        omega
    · rw [if_neg hl] at h; omega
theorem inm_3 {b : Int → Int} {n q : Int} (hT : TPO b n) (q0 : 0 ≤ q) : (le_ b n q - q ≤ 7 ∧ inm b n ((3 : Int) * 7) q (le_ b n q) = true) ↔ tw b n q = 3 := by
  have ha := le_all (b := b) (n := n) (p := q)
  have hb : ∀ j : Nat, q + (j : Int) < le_ b n q → (97 ≤ b (q + (j : Int)) ∧ b (q + (j : Int)) ≤ 122) ∧ tc b n (q + (j : Int)) = b (q + (j : Int)) := by
    intro j hj
    have h1 := of_decide_eq_true (ha.2.1 (q + (j : Int)) (by omega) hj)
    have h2 := tc_val hT (p := q + (j : Int)) (by omega) h1.1
    omega
  rw [inm_iff]
  unfold tw
  have x0 : xch ((3 : Int) * 7 + ((0 : Nat) : Int)) = 115 := by decide
  have x1 : xch ((3 : Int) * 7 + ((1 : Nat) : Int)) = 105 := by decide
  have x2 : xch ((3 : Int) * 7 + ((2 : Nat) : Int)) = 122 := by decide
  have x3 : xch ((3 : Int) * 7 + ((3 : Nat) : Int)) = 101 := by decide
  have x4 : xch ((3 : Int) * 7 + ((4 : Nat) : Int)) = 32 := by decide
  have x5 : xch ((3 : Int) * 7 + ((5 : Nat) : Int)) = 32 := by decide
  have x6 : xch ((3 : Int) * 7 + ((6 : Nat) : Int)) = 32 := by decide
  constructor
  · rintro ⟨h7, h⟩
    have y0 := h 0 (by decide)
    rw [x0] at y0
    have z0 := hb 0
    have y1 := h 1 (by decide)
    rw [x1] at y1
    have z1 := hb 1
    have y2 := h 2 (by decide)
    rw [x2] at y2
    have z2 := hb 2
    have y3 := h 3 (by decide)
    rw [x3] at y3
    have z3 := hb 3
    have y4 := h 4 (by decide)
    rw [x4] at y4
    have z4 := hb 4
    have y5 := h 5 (by decide)
    rw [x5] at y5
    have z5 := hb 5
    have y6 := h 6 (by decide)
    rw [x6] at y6
    have z6 := hb 6
    have l0 : q + ((0 : Nat) : Int) < le_ b n q := Classical.byContradiction fun r => by rw [if_neg r] at y0; omega
    rw [if_pos l0, (z0 l0).2] at y0
    have l1 : q + ((1 : Nat) : Int) < le_ b n q := Classical.byContradiction fun r => by rw [if_neg r] at y1; omega
    rw [if_pos l1, (z1 l1).2] at y1
    have l2 : q + ((2 : Nat) : Int) < le_ b n q := Classical.byContradiction fun r => by rw [if_neg r] at y2; omega
    rw [if_pos l2, (z2 l2).2] at y2
    have l3 : q + ((3 : Nat) : Int) < le_ b n q := Classical.byContradiction fun r => by rw [if_neg r] at y3; omega
    rw [if_pos l3, (z3 l3).2] at y3
    have l4 : ¬ q + ((4 : Nat) : Int) < le_ b n q := fun r => by rw [if_pos r] at y4; have := z4 r; omega
    have l5 : ¬ q + ((5 : Nat) : Int) < le_ b n q := fun r => by rw [if_pos r] at y5; have := z5 r; omega
    have l6 : ¬ q + ((6 : Nat) : Int) < le_ b n q := fun r => by rw [if_pos r] at y6; have := z6 r; omega
    have el : (le_ b n q - q).toNat = 4 := by omega
    rw [if_pos (by omega), el, tws_3]
    show (256 * (256 * (256 * (256 * 0 + b (q + ((0 : Nat) : Int))) + b (q + ((1 : Nat) : Int))) + b (q + ((2 : Nat) : Int))) + b (q + ((3 : Nat) : Int))) = 1936292453
    omega
  · intro h
    by_cases hl : 0 < le_ b n q - q ∧ le_ b n q - q < 8
    · rw [if_pos hl, tws_3] at h
      have z0 := hb 0
      have z1 := hb 1
      have z2 := hb 2
      have z3 := hb 3
      have z4 := hb 4
      have z5 := hb 5
      have z6 := hb 6
      have hc : (le_ b n q - q).toNat = 1 ∨ (le_ b n q - q).toNat = 2 ∨ (le_ b n q - q).toNat = 3 ∨ (le_ b n q - q).toNat = 4 ∨ (le_ b n q - q).toNat = 5 ∨ (le_ b n q - q).toNat = 6 ∨ (le_ b n q - q).toNat = 7 := by omega
      rcases hc with el | el | el | el | el | el | el
      · rw [el] at h
        have h2 : (256 * 0 + b (q + ((0 : Nat) : Int))) = 1936292453 := h
        have v0 := z0 (by omega)
        omega
      · rw [el] at h
        have h2 : (256 * (256 * 0 + b (q + ((0 : Nat) : Int))) + b (q + ((1 : Nat) : Int))) = 1936292453 := h
        have v0 := z0 (by omega)
        have v1 := z1 (by omega)
        omega
      · rw [el] at h
        have h2 : (256 * (256 * (256 * 0 + b (q + ((0 : Nat) : Int))) + b (q + ((1 : Nat) : Int))) + b (q + ((2 : Nat) : Int))) = 1936292453 := h
        have v0 := z0 (by omega)
        have v1 := z1 (by omega)
        have v2 := z2 (by omega)
        omega
      · rw [el] at h
        have h2 : (256 * (256 * (256 * (256 * 0 + b (q + ((0 : Nat) : Int))) + b (q + ((1 : Nat) : Int))) + b (q + ((2 : Nat) : Int))) + b (q + ((3 : Nat) : Int))) = 1936292453 := h
        have v0 := z0 (by omega)
        have v1 := z1 (by omega)
        have v2 := z2 (by omega)
        have v3 := z3 (by omega)
        refine ⟨by omega, fun j hj => ?_⟩
        have hj7 : j = 0 ∨ j = 1 ∨ j = 2 ∨ j = 3 ∨ j = 4 ∨ j = 5 ∨ j = 6 := by omega
        rcases hj7 with r | r | r | r | r | r | r <;> subst r
        · rw [x0, if_pos (by omega), v0.2]; omega
        · rw [x1, if_pos (by omega), v1.2]; omega
        · rw [x2, if_pos (by omega), v2.2]; omega
        · rw [x3, if_pos (by omega), v3.2]; omega
        · rw [x4, if_neg (by omega)]
        · rw [x5, if_neg (by omega)]
        · rw [x6, if_neg (by omega)]
      · rw [el] at h
        have h2 : (256 * (256 * (256 * (256 * (256 * 0 + b (q + ((0 : Nat) : Int))) + b (q + ((1 : Nat) : Int))) + b (q + ((2 : Nat) : Int))) + b (q + ((3 : Nat) : Int))) + b (q + ((4 : Nat) : Int))) = 1936292453 := h
        have v0 := z0 (by omega)
        have v1 := z1 (by omega)
        have v2 := z2 (by omega)
        have v3 := z3 (by omega)
        have v4 := z4 (by omega)
        omega
      · rw [el] at h
        have h2 : (256 * (256 * (256 * (256 * (256 * (256 * 0 + b (q + ((0 : Nat) : Int))) + b (q + ((1 : Nat) : Int))) + b (q + ((2 : Nat) : Int))) + b (q + ((3 : Nat) : Int))) + b (q + ((4 : Nat) : Int))) + b (q + ((5 : Nat) : Int))) = 1936292453 := h
        have v0 := z0 (by omega)
        have v1 := z1 (by omega)
        have v2 := z2 (by omega)
        have v3 := z3 (by omega)
        have v4 := z4 (by omega)
        have v5 := z5 (by omega)
        omega
      · rw [el] at h
        have h2 : (256 * (256 * (256 * (256 * (256 * (256 * (256 * 0 + b (q + ((0 : Nat) : Int))) + b (q + ((1 : Nat) : Int))) + b (q + ((2 : Nat) : Int))) + b (q + ((3 : Nat) : Int))) + b (q + ((4 : Nat) : Int))) + b (q + ((5 : Nat) : Int))) + b (q + ((6 : Nat) : Int))) = 1936292453 := h
        have v0 := z0 (by omega)
        have v1 := z1 (by omega)
        have v2 := z2 (by omega)
        have v3 := z3 (by omega)
        have v4 := z4 (by omega)
        have v5 := z5 (by omega)
        have v6 := z6 (by omega)
        omega
    · rw [if_neg hl] at h; omega
theorem inm_4 {b : Int → Int} {n q : Int} (hT : TPO b n) (q0 : 0 ≤ q) : (le_ b n q - q ≤ 7 ∧ inm b n ((4 : Int) * 7) q (le_ b n q) = true) ↔ tw b n q = 4 := by
  have ha := le_all (b := b) (n := n) (p := q)
  have hb : ∀ j : Nat, q + (j : Int) < le_ b n q → (97 ≤ b (q + (j : Int)) ∧ b (q + (j : Int)) ≤ 122) ∧ tc b n (q + (j : Int)) = b (q + (j : Int)) := by
    intro j hj
    have h1 := of_decide_eq_true (ha.2.1 (q + (j : Int)) (by omega) hj)
    have h2 := tc_val hT (p := q + (j : Int)) (by omega) h1.1
    omega
  rw [inm_iff]
  unfold tw
  have x0 : xch ((4 : Int) * 7 + ((0 : Nat) : Int)) = 108 := by decide
  have x1 : xch ((4 : Int) * 7 + ((1 : Nat) : Int)) = 105 := by decide
  have x2 : xch ((4 : Int) * 7 + ((2 : Nat) : Int)) = 107 := by decide
  have x3 : xch ((4 : Int) * 7 + ((3 : Nat) : Int)) = 101 := by decide
  have x4 : xch ((4 : Int) * 7 + ((4 : Nat) : Int)) = 115 := by decide
  have x5 : xch ((4 : Int) * 7 + ((5 : Nat) : Int)) = 32 := by decide
  have x6 : xch ((4 : Int) * 7 + ((6 : Nat) : Int)) = 32 := by decide
  constructor
  · rintro ⟨h7, h⟩
    have y0 := h 0 (by decide)
    rw [x0] at y0
    have z0 := hb 0
    have y1 := h 1 (by decide)
    rw [x1] at y1
    have z1 := hb 1
    have y2 := h 2 (by decide)
    rw [x2] at y2
    have z2 := hb 2
    have y3 := h 3 (by decide)
    rw [x3] at y3
    have z3 := hb 3
    have y4 := h 4 (by decide)
    rw [x4] at y4
    have z4 := hb 4
    have y5 := h 5 (by decide)
    rw [x5] at y5
    have z5 := hb 5
    have y6 := h 6 (by decide)
    rw [x6] at y6
    have z6 := hb 6
    have l0 : q + ((0 : Nat) : Int) < le_ b n q := Classical.byContradiction fun r => by rw [if_neg r] at y0; omega
    rw [if_pos l0, (z0 l0).2] at y0
    have l1 : q + ((1 : Nat) : Int) < le_ b n q := Classical.byContradiction fun r => by rw [if_neg r] at y1; omega
    rw [if_pos l1, (z1 l1).2] at y1
    have l2 : q + ((2 : Nat) : Int) < le_ b n q := Classical.byContradiction fun r => by rw [if_neg r] at y2; omega
    rw [if_pos l2, (z2 l2).2] at y2
    have l3 : q + ((3 : Nat) : Int) < le_ b n q := Classical.byContradiction fun r => by rw [if_neg r] at y3; omega
    rw [if_pos l3, (z3 l3).2] at y3
    have l4 : q + ((4 : Nat) : Int) < le_ b n q := Classical.byContradiction fun r => by rw [if_neg r] at y4; omega
    rw [if_pos l4, (z4 l4).2] at y4
    have l5 : ¬ q + ((5 : Nat) : Int) < le_ b n q := fun r => by rw [if_pos r] at y5; have := z5 r; omega
    have l6 : ¬ q + ((6 : Nat) : Int) < le_ b n q := fun r => by rw [if_pos r] at y6; have := z6 r; omega
    have el : (le_ b n q - q).toNat = 5 := by omega
    rw [if_pos (by omega), el, tws_4]
    show (256 * (256 * (256 * (256 * (256 * 0 + b (q + ((0 : Nat) : Int))) + b (q + ((1 : Nat) : Int))) + b (q + ((2 : Nat) : Int))) + b (q + ((3 : Nat) : Int))) + b (q + ((4 : Nat) : Int))) = 465625113971
    omega
  · intro h
    by_cases hl : 0 < le_ b n q - q ∧ le_ b n q - q < 8
    · rw [if_pos hl, tws_4] at h
      have z0 := hb 0
      have z1 := hb 1
      have z2 := hb 2
      have z3 := hb 3
      have z4 := hb 4
      have z5 := hb 5
      have z6 := hb 6
      have hc : (le_ b n q - q).toNat = 1 ∨ (le_ b n q - q).toNat = 2 ∨ (le_ b n q - q).toNat = 3 ∨ (le_ b n q - q).toNat = 4 ∨ (le_ b n q - q).toNat = 5 ∨ (le_ b n q - q).toNat = 6 ∨ (le_ b n q - q).toNat = 7 := by omega
      rcases hc with el | el | el | el | el | el | el
      · rw [el] at h
        have h2 : (256 * 0 + b (q + ((0 : Nat) : Int))) = 465625113971 := h
        have v0 := z0 (by omega)
        omega
      · rw [el] at h
        have h2 : (256 * (256 * 0 + b (q + ((0 : Nat) : Int))) + b (q + ((1 : Nat) : Int))) = 465625113971 := h
        have v0 := z0 (by omega)
        have v1 := z1 (by omega)
        omega
      · rw [el] at h
        have h2 : (256 * (256 * (256 * 0 + b (q + ((0 : Nat) : Int))) + b (q + ((1 : Nat) : Int))) + b (q + ((2 : Nat) : Int))) = 465625113971 := h
        have v0 := z0 (by omega)
        have v1 := z1 (by omega)
        have v2 := z2 (by omega)
        omega
      · rw [el] at h
        have h2 : (256 * (256 * (256 * (256 * 0 + b (q + ((0 : Nat) : Int))) + b (q + ((1 : Nat) : Int))) + b (q + ((2 : Nat) : Int))) + b (q + ((3 : Nat) : Int))) = 465625113971 := h
        have v0 := z0 (by omega)
        have v1 := z1 (by omega)
        have v2 := z2 (by omega)
        have v3 := z3 (by omega)
        omega
      · rw [el] at h
        have h2 : (256 * (256 * (256 * (256 * (256 * 0 + b (q + ((0 : Nat) : Int))) + b (q + ((1 : Nat) : Int))) + b (q + ((2 : Nat) : Int))) + b (q + ((3 : Nat) : Int))) + b (q + ((4 : Nat) : Int))) = 465625113971 := h
        have v0 := z0 (by omega)
        have v1 := z1 (by omega)
        have v2 := z2 (by omega)
        have v3 := z3 (by omega)
        have v4 := z4 (by omega)
        refine ⟨by omega, fun j hj => ?_⟩
        have hj7 : j = 0 ∨ j = 1 ∨ j = 2 ∨ j = 3 ∨ j = 4 ∨ j = 5 ∨ j = 6 := by omega
        rcases hj7 with r | r | r | r | r | r | r <;> subst r
        · rw [x0, if_pos (by omega), v0.2]; omega
        · rw [x1, if_pos (by omega), v1.2]; omega
        · rw [x2, if_pos (by omega), v2.2]; omega
        · rw [x3, if_pos (by omega), v3.2]; omega
        · rw [x4, if_pos (by omega), v4.2]; omega
        · rw [x5, if_neg (by omega)]
        · rw [x6, if_neg (by omega)]
      · rw [el] at h
        have h2 : (256 * (256 * (256 * (256 * (256 * (256 * 0 + b (q + ((0 : Nat) : Int))) + b (q + ((1 : Nat) : Int))) + b (q + ((2 : Nat) : Int))) + b (q + ((3 : Nat) : Int))) + b (q + ((4 : Nat) : Int))) + b (q + ((5 : Nat) : Int))) = 465625113971 := h
        have v0 := z0 (by omega)
        have v1 := z1 (by omega)
        have v2 := z2 (by omega)
        have v3 := z3 (by omega)
        have v4 := z4 (by omega)
        have v5 := z5 (by omega)
        omega
      · rw [el] at h
        have h2 : (256 * (256 * (256 * (256 * (256 * (256 * (256 * 0 + b (q + ((0 : Nat) : Int))) + b (q + ((1 : Nat) : Int))) + b (q + ((2 : Nat) : Int))) + b (q + ((3 : Nat) : Int))) + b (q + ((4 : Nat) : Int))) + b (q + ((5 : Nat) : Int))) + b (q + ((6 : Nat) : Int))) = 465625113971 := h
        have v0 := z0 (by omega)
        have v1 := z1 (by omega)
        have v2 := z2 (by omega)
        have v3 := z3 (by omega)
        have v4 := z4 (by omega)
        have v5 := z5 (by omega)
        have v6 := z6 (by omega)
        omega
    · rw [if_neg hl] at h; omega
theorem inm_5 {b : Int → Int} {n q : Int} (hT : TPO b n) (q0 : 0 ≤ q) : (le_ b n q - q ≤ 7 ∧ inm b n ((5 : Int) * 7) q (le_ b n q) = true) ↔ tw b n q = 5 := by
  have ha := le_all (b := b) (n := n) (p := q)
  have hb : ∀ j : Nat, q + (j : Int) < le_ b n q → (97 ≤ b (q + (j : Int)) ∧ b (q + (j : Int)) ≤ 122) ∧ tc b n (q + (j : Int)) = b (q + (j : Int)) := by
    intro j hj
    have h1 := of_decide_eq_true (ha.2.1 (q + (j : Int)) (by omega) hj)
    have h2 := tc_val hT (p := q + (j : Int)) (by omega) h1.1
    omega
  rw [inm_iff]
  unfold tw
  have x0 : xch ((5 : Int) * 7 + ((0 : Nat) : Int)) = 119 := by decide
  have x1 : xch ((5 : Int) * 7 + ((1 : Nat) : Int)) = 111 := by decide
  have x2 : xch ((5 : Int) * 7 + ((2 : Nat) : Int)) = 114 := by decide
  have x3 : xch ((5 : Int) * 7 + ((3 : Nat) : Int)) = 116 := by decide
  have x4 : xch ((5 : Int) * 7 + ((4 : Nat) : Int)) = 104 := by decide
  have x5 : xch ((5 : Int) * 7 + ((5 : Nat) : Int)) = 32 := by decide
  have x6 : xch ((5 : Int) * 7 + ((6 : Nat) : Int)) = 32 := by decide
  constructor
  · rintro ⟨h7, h⟩
    have y0 := h 0 (by decide)
    rw [x0] at y0
    have z0 := hb 0
    have y1 := h 1 (by decide)
    rw [x1] at y1
    have z1 := hb 1
    have y2 := h 2 (by decide)
    rw [x2] at y2
    have z2 := hb 2
    have y3 := h 3 (by decide)
    rw [x3] at y3
    have z3 := hb 3
    have y4 := h 4 (by decide)
    rw [x4] at y4
    have z4 := hb 4
    have y5 := h 5 (by decide)
    rw [x5] at y5
    have z5 := hb 5
    have y6 := h 6 (by decide)
    rw [x6] at y6
    have z6 := hb 6
    have l0 : q + ((0 : Nat) : Int) < le_ b n q := Classical.byContradiction fun r => by rw [if_neg r] at y0; omega
    rw [if_pos l0, (z0 l0).2] at y0
    have l1 : q + ((1 : Nat) : Int) < le_ b n q := Classical.byContradiction fun r => by rw [if_neg r] at y1; omega
    rw [if_pos l1, (z1 l1).2] at y1
    have l2 : q + ((2 : Nat) : Int) < le_ b n q := Classical.byContradiction fun r => by rw [if_neg r] at y2; omega
    rw [if_pos l2, (z2 l2).2] at y2
    have l3 : q + ((3 : Nat) : Int) < le_ b n q := Classical.byContradiction fun r => by rw [if_neg r] at y3; omega
    rw [if_pos l3, (z3 l3).2] at y3
    have l4 : q + ((4 : Nat) : Int) < le_ b n q := Classical.byContradiction fun r => by rw [if_neg r] at y4; omega
    rw [if_pos l4, (z4 l4).2] at y4
    have l5 : ¬ q + ((5 : Nat) : Int) < le_ b n q := fun r => by rw [if_pos r] at y5; have := z5 r; omega
    have l6 : ¬ q + ((6 : Nat) : Int) < le_ b n q := fun r => by rw [if_pos r] at y6; have := z6 r; omega
    have el : (le_ b n q - q).toNat = 5 := by omega
    rw [if_pos (by omega), el, tws_5]
    show (256 * (256 * (256 * (256 * (256 * 0 + b (q + ((0 : Nat) : Int))) + b (q + ((1 : Nat) : Int))) + b (q + ((2 : Nat) : Int))) + b (q + ((3 : Nat) : Int))) + b (q + ((4 : Nat) : Int))) = 512970880104
    omega
  · intro h
    by_cases hl : 0 < le_ b n q - q ∧ le_ b n q - q < 8
    · rw [if_pos hl, tws_5] at h
      have z0 := hb 0
      have z1 := hb 1
      have z2 := hb 2
      have z3 := hb 3
      have z4 := hb 4
      have z5 := hb 5
      have z6 := hb 6
      have hc : (le_ b n q - q).toNat = 1 ∨ (le_ b n q - q).toNat = 2 ∨ (le_ b n q - q).toNat = 3 ∨ (le_ b n q - q).toNat = 4 ∨ (le_ b n q - q).toNat = 5 ∨ (le_ b n q - q).toNat = 6 ∨ (le_ b n q - q).toNat = 7 := by omega
      rcases hc with el | el | el | el | el | el | el
      · rw [el] at h
        have h2 : (256 * 0 + b (q + ((0 : Nat) : Int))) = 512970880104 := h
        have v0 := z0 (by omega)
        omega
      · rw [el] at h
        have h2 : (256 * (256 * 0 + b (q + ((0 : Nat) : Int))) + b (q + ((1 : Nat) : Int))) = 512970880104 := h
        have v0 := z0 (by omega)
        have v1 := z1 (by omega)
        omega
      · rw [el] at h
        have h2 : (256 * (256 * (256 * 0 + b (q + ((0 : Nat) : Int))) + b (q + ((1 : Nat) : Int))) + b (q + ((2 : Nat) : Int))) = 512970880104 := h
        have v0 := z0 (by omega)
        have v1 := z1 (by omega)
        have v2 := z2 (by omega)
        omega
      · rw [el] at h
        have h2 : (256 * (256 * (256 * (256 * 0 + b (q + ((0 : Nat) : Int))) + b (q + ((1 : Nat) : Int))) + b (q + ((2 : Nat) : Int))) + b (q + ((3 : Nat) : Int))) = 512970880104 := h
        have v0 := z0 (by omega)
        have v1 := z1 (by omega)
        have v2 := z2 (by omega)
        have v3 := z3 (by omega)
        omega
      · rw [el] at h
        have h2 : (256 * (256 * (256 * (256 * (256 * 0 + b (q + ((0 : Nat) : Int))) + b (q + ((1 : Nat) : Int))) + b (q + ((2 : Nat) : Int))) + b (q + ((3 : Nat) : Int))) + b (q + ((4 : Nat) : Int))) = 512970880104 := h
        have v0 := z0 (by omega)
        have v1 := z1 (by omega)
        have v2 := z2 (by omega)
        have v3 := z3 (by omega)
        have v4 := z4 (by omega)
        refine ⟨by omega, fun j hj => ?_⟩
        have hj7 : j = 0 ∨ j = 1 ∨ j = 2 ∨ j = 3 ∨ j = 4 ∨ j = 5 ∨ j = 6 := by omega
        rcases hj7 with r | r | r | r | r | r | r <;> subst r
        · rw [x0, if_pos (by omega), v0.2]; omega
        · rw [x1, if_pos (by omega), v1.2]; omega
        · rw [x2, if_pos (by omega), v2.2]; omega
        · rw [x3, if_pos (by omega), v3.2]; omega
        · rw [x4, if_pos (by omega), v4.2]; omega
        · rw [x5, if_neg (by omega)]
        · rw [x6, if_neg (by omega)]
      · rw [el] at h
        have h2 : (256 * (256 * (256 * (256 * (256 * (256 * 0 + b (q + ((0 : Nat) : Int))) + b (q + ((1 : Nat) : Int))) + b (q + ((2 : Nat) : Int))) + b (q + ((3 : Nat) : Int))) + b (q + ((4 : Nat) : Int))) + b (q + ((5 : Nat) : Int))) = 512970880104 := h
        have v0 := z0 (by omega)
        have v1 := z1 (by omega)
        have v2 := z2 (by omega)
        have v3 := z3 (by omega)
        have v4 := z4 (by omega)
        have v5 := z5 (by omega)
        omega
      · rw [el] at h
        have h2 : (256 * (256 * (256 * (256 * (256 * (256 * (256 * 0 + b (q + ((0 : Nat) : Int))) + b (q + ((1 : Nat) : Int))) + b (q + ((2 : Nat) : Int))) + b (q + ((3 : Nat) : Int))) + b (q + ((4 : Nat) : Int))) + b (q + ((5 : Nat) : Int))) + b (q + ((6 : Nat) : Int))) = 512970880104 := h
        have v0 := z0 (by omega)
        have v1 := z1 (by omega)
        have v2 := z2 (by omega)
        have v3 := z3 (by omega)
        have v4 := z4 (by omega)
        have v5 := z5 (by omega)
        have v6 := z6 (by omega)
        omega
    · rw [if_neg hl] at h; omega
theorem inm_6 {b : Int → Int} {n q : Int} (hT : TPO b n) (q0 : 0 ≤ q) : (le_ b n q - q ≤ 7 ∧ inm b n ((6 : Int) * 7) q (le_ b n q) = true) ↔ tw b n q = 6 := by
  have ha := le_all (b := b) (n := n) (p := q)
  have hb : ∀ j : Nat, q + (j : Int) < le_ b n q → (97 ≤ b (q + (j : Int)) ∧ b (q + (j : Int)) ≤ 122) ∧ tc b n (q + (j : Int)) = b (q + (j : Int)) := by
    intro j hj
    have h1 := of_decide_eq_true (ha.2.1 (q + (j : Int)) (by omega) hj)
    have h2 := tc_val hT (p := q + (j : Int)) (by omega) h1.1
    omega
  rw [inm_iff]
  unfold tw
  have x0 : xch ((6 : Int) * 7 + ((0 : Nat) : Int)) = 104 := by decide
  have x1 : xch ((6 : Int) * 7 + ((1 : Nat) : Int)) = 97 := by decide
  have x2 : xch ((6 : Int) * 7 + ((2 : Nat) : Int)) = 115 := by decide
  have x3 : xch ((6 : Int) * 7 + ((3 : Nat) : Int)) = 32 := by decide
  have x4 : xch ((6 : Int) * 7 + ((4 : Nat) : Int)) = 32 := by decide
  have x5 : xch ((6 : Int) * 7 + ((5 : Nat) : Int)) = 32 := by decide
  have x6 : xch ((6 : Int) * 7 + ((6 : Nat) : Int)) = 32 := by decide
  constructor
  · rintro ⟨h7, h⟩
    have y0 := h 0 (by decide)
    rw [x0] at y0
    have z0 := hb 0
    have y1 := h 1 (by decide)
    rw [x1] at y1
    have z1 := hb 1
    have y2 := h 2 (by decide)
    rw [x2] at y2
    have z2 := hb 2
    have y3 := h 3 (by decide)
    rw [x3] at y3
    have z3 := hb 3
    have y4 := h 4 (by decide)
    rw [x4] at y4
    have z4 := hb 4
    have y5 := h 5 (by decide)
    rw [x5] at y5
    have z5 := hb 5
    have y6 := h 6 (by decide)
    rw [x6] at y6
    have z6 := hb 6
    have l0 : q + ((0 : Nat) : Int) < le_ b n q := Classical.byContradiction fun r => by rw [if_neg r] at y0; omega
    rw [if_pos l0, (z0 l0).2] at y0
    have l1 : q + ((1 : Nat) : Int) < le_ b n q := Classical.byContradiction fun r => by rw [if_neg r] at y1; omega
    rw [if_pos l1, (z1 l1).2] at y1
    have l2 : q + ((2 : Nat) : Int) < le_ b n q := Classical.byContradiction fun r => by rw [if_neg r] at y2; omega
    rw [if_pos l2, (z2 l2).2] at y2
    have l3 : ¬ q + ((3 : Nat) : Int) < le_ b n q := fun r => by rw [if_pos r] at y3; have := z3 r; omega
    have l4 : ¬ q + ((4 : Nat) : Int) < le_ b n q := fun r => by rw [if_pos r] at y4; have := z4 r; omega
    have l5 : ¬ q + ((5 : Nat) : Int) < le_ b n q := fun r => by rw [if_pos r] at y5; have := z5 r; omega
    have l6 : ¬ q + ((6 : Nat) : Int) < le_ b n q := fun r => by rw [if_pos r] at y6; have := z6 r; omega
    have el : (le_ b n q - q).toNat = 3 := by omega
    rw [if_pos (by omega), el, tws_6]
    show (256 * (256 * (256 * 0 + b (q + ((0 : Nat) : Int))) + b (q + ((1 : Nat) : Int))) + b (q + ((2 : Nat) : Int))) = 6840691
    omega
  · intro h
    by_cases hl : 0 < le_ b n q - q ∧ le_ b n q - q < 8
    · rw [if_pos hl, tws_6] at h
      have z0 := hb 0
      have z1 := hb 1
      have z2 := hb 2
      have z3 := hb 3
      have z4 := hb 4
      have z5 := hb 5
      have z6 := hb 6
      have hc : (le_ b n q - q).toNat = 1 ∨ (le_ b n q - q).toNat = 2 ∨ (le_ b n q - q).toNat = 3 ∨ (le_ b n q - q).toNat = 4 ∨ (le_ b n q - q).toNat = 5 ∨ (le_ b n q - q).toNat = 6 ∨ (le_ b n q - q).toNat = 7 := by omega
      rcases hc with el | el | el | el | el | el | el
      · rw [el] at h
        have h2 : (256 * 0 + b (q + ((0 : Nat) : Int))) = 6840691 := h
        have v0 := z0 (by omega)
        omega
      · rw [el] at h
        have h2 : (256 * (256 * 0 + b (q + ((0 : Nat) : Int))) + b (q + ((1 : Nat) : Int))) = 6840691 := h
        have v0 := z0 (by omega)
        have v1 := z1 (by omega)
        omega
      · rw [el] at h
        have h2 : (256 * (256 * (256 * 0 + b (q + ((0 : Nat) : Int))) + b (q + ((1 : Nat) : Int))) + b (q + ((2 : Nat) : Int))) = 6840691 := h
        have v0 := z0 (by omega)
        have v1 := z1 (by omega)
        have v2 := z2 (by omega)
        refine ⟨by omega, fun j hj => ?_⟩
        have hj7 : j = 0 ∨ j = 1 ∨ j = 2 ∨ j = 3 ∨ j = 4 ∨ j = 5 ∨ j = 6 := by omega
        rcases hj7 with r | r | r | r | r | r | r <;> subst r
        · rw [x0, if_pos (by omega), v0.2]; omega
        · rw [x1, if_pos (by omega), v1.2]; omega
        · rw [x2, if_pos (by omega), v2.2]; omega
        · rw [x3, if_neg (by omega)]
        · rw [x4, if_neg (by omega)]
        · rw [x5, if_neg (by omega)]
        · rw [x6, if_neg (by omega)]
      · rw [el] at h
        have h2 : (256 * (256 * (256 * (256 * 0 + b (q + ((0 : Nat) : Int))) + b (q + ((1 : Nat) : Int))) + b (q + ((2 : Nat) : Int))) + b (q + ((3 : Nat) : Int))) = 6840691 := h
        have v0 := z0 (by omega)
        have v1 := z1 (by omega)
        have v2 := z2 (by omega)
        have v3 := z3 (by omega)
        omega
      · rw [el] at h
        have h2 : (256 * (256 * (256 * (256 * (256 * 0 + b (q + ((0 : Nat) : Int))) + b (q + ((1 : Nat) : Int))) + b (q + ((2 : Nat) : Int))) + b (q + ((3 : Nat) : Int))) + b (q + ((4 : Nat) : Int))) = 6840691 := h
        have v0 := z0 (by omega)
        have v1 := z1 (by omega)
        have v2 := z2 (by omega)
        have v3 := z3 (by omega)
        have v4 := z4 (by omega)
        omega
      · rw [el] at h
        have h2 : (256 * (256 * (256 * (256 * (256 * (256 * 0 + b (q + ((0 : Nat) : Int))) + b (q + ((1 : Nat) : Int))) + b (q + ((2 : Nat) : Int))) + b (q + ((3 : Nat) : Int))) + b (q + ((4 : Nat) : Int))) + b (q + ((5 : Nat) : Int))) = 6840691 := h
        have v0 := z0 (by omega)
        have v1 := z1 (by omega)
        have v2 := z2 (by omega)
        have v3 := z3 (by omega)
        have v4 := z4 (by omega)
        have v5 := z5 (by omega)
        omega
      · rw [el] at h
        have h2 : (256 * (256 * (256 * (256 * (256 * (256 * (256 * 0 + b (q + ((0 : Nat) : Int))) + b (q + ((1 : Nat) : Int))) + b (q + ((2 : Nat) : Int))) + b (q + ((3 : Nat) : Int))) + b (q + ((4 : Nat) : Int))) + b (q + ((5 : Nat) : Int))) + b (q + ((6 : Nat) : Int))) = 6840691 := h
        have v0 := z0 (by omega)
        have v1 := z1 (by omega)
        have v2 := z2 (by omega)
        have v3 := z3 (by omega)
        have v4 := z4 (by omega)
        have v5 := z5 (by omega)
        have v6 := z6 (by omega)
        omega
    · rw [if_neg hl] at h; omega
theorem inm_7 {b : Int → Int} {n q : Int} (hT : TPO b n) (q0 : 0 ≤ q) : (le_ b n q - q ≤ 7 ∧ inm b n ((7 : Int) * 7) q (le_ b n q) = true) ↔ tw b n q = 7 := by
  have ha := le_all (b := b) (n := n) (p := q)
  have hb : ∀ j : Nat, q + (j : Int) < le_ b n q → (97 ≤ b (q + (j : Int)) ∧ b (q + (j : Int)) ≤ 122) ∧ tc b n (q + (j : Int)) = b (q + (j : Int)) := by
    intro j hj
    have h1 := of_decide_eq_true (ha.2.1 (q + (j : Int)) (by omega) hj)
    have h2 := tc_val hT (p := q + (j : Int)) (by omega) h1.1
    omega
  rw [inm_iff]
  unfold tw
  have x0 : xch ((7 : Int) * 7 + ((0 : Nat) : Int)) = 114 := by decide
  have x1 : xch ((7 : Int) * 7 + ((1 : Nat) : Int)) = 117 := by decide
  have x2 : xch ((7 : Int) * 7 + ((2 : Nat) : Int)) = 101 := by decide
  have x3 : xch ((7 : Int) * 7 + ((3 : Nat) : Int)) = 32 := by decide
  have x4 : xch ((7 : Int) * 7 + ((4 : Nat) : Int)) = 32 := by decide
  have x5 : xch ((7 : Int) * 7 + ((5 : Nat) : Int)) = 32 := by decide
  have x6 : xch ((7 : Int) * 7 + ((6 : Nat) : Int)) = 32 := by decide
  constructor
  · rintro ⟨h7, h⟩
    have y0 := h 0 (by decide)
    rw [x0] at y0
    have z0 := hb 0
    have y1 := h 1 (by decide)
    rw [x1] at y1
    have z1 := hb 1
    have y2 := h 2 (by decide)
    rw [x2] at y2
    have z2 := hb 2
    have y3 := h 3 (by decide)
    rw [x3] at y3
    have z3 := hb 3
    have y4 := h 4 (by decide)
    rw [x4] at y4
    have z4 := hb 4
    have y5 := h 5 (by decide)
    rw [x5] at y5
    have z5 := hb 5
    have y6 := h 6 (by decide)
    rw [x6] at y6
    have z6 := hb 6
    have l0 : q + ((0 : Nat) : Int) < le_ b n q := Classical.byContradiction fun r => by rw [if_neg r] at y0; omega
    rw [if_pos l0, (z0 l0).2] at y0
    have l1 : q + ((1 : Nat) : Int) < le_ b n q := Classical.byContradiction fun r => by rw [if_neg r] at y1; omega
    rw [if_pos l1, (z1 l1).2] at y1
    have l2 : q + ((2 : Nat) : Int) < le_ b n q := Classical.byContradiction fun r => by rw [if_neg r] at y2; omega
    rw [if_pos l2, (z2 l2).2] at y2
    have l3 : ¬ q + ((3 : Nat) : Int) < le_ b n q := fun r => by rw [if_pos r] at y3; have := z3 r; omega
    have l4 : ¬ q + ((4 : Nat) : Int) < le_ b n q := fun r => by rw [if_pos r] at y4; have := z4 r; omega
    have l5 : ¬ q + ((5 : Nat) : Int) < le_ b n q := fun r => by rw [if_pos r] at y5; have := z5 r; omega
    have l6 : ¬ q + ((6 : Nat) : Int) < le_ b n q := fun r => by rw [if_pos r] at y6; have := z6 r; omega
    have el : (le_ b n q - q).toNat = 3 := by omega
    rw [if_pos (by omega), el, tws_7]
    show (256 * (256 * (256 * 0 + b (q + ((0 : Nat) : Int))) + b (q + ((1 : Nat) : Int))) + b (q + ((2 : Nat) : Int))) = 7501157
    omega
  · intro h
    by_cases hl : 0 < le_ b n q - q ∧ le_ b n q - q < 8
    · rw [if_pos hl, tws_7] at h
      have z0 := hb 0
      have z1 := hb 1
      have z2 := hb 2
      have z3 := hb 3
      have z4 := hb 4
      have z5 := hb 5
      have z6 := hb 6
      have hc : (le_ b n q - q).toNat = 1 ∨ (le_ b n q - q).toNat = 2 ∨ (le_ b n q - q).toNat = 3 ∨ (le_ b n q - q).toNat = 4 ∨ (le_ b n q - q).toNat = 5 ∨ (le_ b n q - q).toNat = 6 ∨ (le_ b n q - q).toNat = 7 := by omega
      rcases hc with el | el | el | el | el | el | el
      · rw [el] at h
        have h2 : (256 * 0 + b (q + ((0 : Nat) : Int))) = 7501157 := h
        have v0 := z0 (by omega)
        omega
      · rw [el] at h
        have h2 : (256 * (256 * 0 + b (q + ((0 : Nat) : Int))) + b (q + ((1 : Nat) : Int))) = 7501157 := h
        have v0 := z0 (by omega)
        have v1 := z1 (by omega)
        omega
      · rw [el] at h
        have h2 : (256 * (256 * (256 * 0 + b (q + ((0 : Nat) : Int))) + b (q + ((1 : Nat) : Int))) + b (q + ((2 : Nat) : Int))) = 7501157 := h
        have v0 := z0 (by omega)
        have v1 := z1 (by omega)
        have v2 := z2 (by omega)
        refine ⟨by omega, fun j hj => ?_⟩
        have hj7 : j = 0 ∨ j = 1 ∨ j = 2 ∨ j = 3 ∨ j = 4 ∨ j = 5 ∨ j = 6 := by omega
        rcases hj7 with r | r | r | r | r | r | r <;> subst r
        · rw [x0, if_pos (by omega), v0.2]; omega
        · rw [x1, if_pos (by omega), v1.2]; omega
        · rw [x2, if_pos (by omega), v2.2]; omega
        · rw [x3, if_neg (by omega)]
        · rw [x4, if_neg (by omega)]
        · rw [x5, if_neg (by omega)]
        · rw [x6, if_neg (by omega)]
      · rw [el] at h
        have h2 : (256 * (256 * (256 * (256 * 0 + b (q + ((0 : Nat) : Int))) + b (q + ((1 : Nat) : Int))) + b (q + ((2 : Nat) : Int))) + b (q + ((3 : Nat) : Int))) = 7501157 := h
        have v0 := z0 (by omega)
        have v1 := z1 (by omega)
        have v2 := z2 (by omega)
        have v3 := z3 (by omega)
        omega
      · rw [el] at h
        have h2 : (256 * (256 * (256 * (256 * (256 * 0 + b (q + ((0 : Nat) : Int))) + b (q + ((1 : Nat) : Int))) + b (q + ((2 : Nat) : Int))) + b (q + ((3 : Nat) : Int))) + b (q + ((4 : Nat) : Int))) = 7501157 := h
        have v0 := z0 (by omega)
        have v1 := z1 (by omega)
        have v2 := z2 (by omega)
        have v3 := z3 (by omega)
        have v4 := z4 (by omega)
        omega
      · rw [el] at h
        have h2 : (256 * (256 * (256 * (256 * (256 * (256 * 0 + b (q + ((0 : Nat) : Int))) + b (q + ((1 : Nat) : Int))) + b (q + ((2 : Nat) : Int))) + b (q + ((3 : Nat) : Int))) + b (q + ((4 : Nat) : Int))) + b (q + ((5 : Nat) : Int))) = 7501157 := h
        have v0 := z0 (by omega)
        have v1 := z1 (by omega)
        have v2 := z2 (by omega)
        have v3 := z3 (by omega)
        have v4 := z4 (by omega)
        have v5 := z5 (by omega)
        omega
      · rw [el] at h
        have h2 : (256 * (256 * (256 * (256 * (256 * (256 * (256 * 0 + b (q + ((0 : Nat) : Int))) + b (q + ((1 : Nat) : Int))) + b (q + ((2 : Nat) : Int))) + b (q + ((3 : Nat) : Int))) + b (q + ((4 : Nat) : Int))) + b (q + ((5 : Nat) : Int))) + b (q + ((6 : Nat) : Int))) = 7501157 := h
        have v0 := z0 (by omega)
        have v1 := z1 (by omega)
        have v2 := z2 (by omega)
        have v3 := z3 (by omega)
        have v4 := z4 (by omega)
        have v5 := z5 (by omega)
        have v6 := z6 (by omega)
        omega
    · rw [if_neg hl] at h; omega
theorem inm_8 {b : Int → Int} {n q : Int} (hT : TPO b n) (q0 : 0 ≤ q) : (le_ b n q - q ≤ 7 ∧ inm b n ((8 : Int) * 7) q (le_ b n q) = true) ↔ tw b n q = 8 := by
  have ha := le_all (b := b) (n := n) (p := q)
  have hb : ∀ j : Nat, q + (j : Int) < le_ b n q → (97 ≤ b (q + (j : Int)) ∧ b (q + (j : Int)) ≤ 122) ∧ tc b n (q + (j : Int)) = b (q + (j : Int)) := by
    intro j hj
    have h1 := of_decide_eq_true (ha.2.1 (q + (j : Int)) (by omega) hj)
    have h2 := tc_val hT (p := q + (j : Int)) (by omega) h1.1
    omega
  rw [inm_iff]
  unfold tw
  have x0 : xch ((8 : Int) * 7 + ((0 : Nat) : Int)) = 102 := by decide
  have x1 : xch ((8 : Int) * 7 + ((1 : Nat) : Int)) = 114 := by decide
  have x2 : xch ((8 : Int) * 7 + ((2 : Nat) : Int)) = 101 := by decide
  have x3 : xch ((8 : Int) * 7 + ((3 : Nat) : Int)) = 101 := by decide
  have x4 : xch ((8 : Int) * 7 + ((4 : Nat) : Int)) = 32 := by decide
  have x5 : xch ((8 : Int) * 7 + ((5 : Nat) : Int)) = 32 := by decide
  have x6 : xch ((8 : Int) * 7 + ((6 : Nat) : Int)) = 32 := by decide
  constructor
  · rintro ⟨h7, h⟩
    have y0 := h 0 (by decide)
    rw [x0] at y0
    have z0 := hb 0
    have y1 := h 1 (by decide)
    rw [x1] at y1
    have z1 := hb 1
    have y2 := h 2 (by decide)
    rw [x2] at y2
    have z2 := hb 2
    have y3 := h 3 (by decide)
    rw [x3] at y3
    have z3 := hb 3
    have y4 := h 4 (by decide)
    rw [x4] at y4
    have z4 := hb 4
    have y5 := h 5 (by decide)
    rw [x5] at y5
    have z5 := hb 5
    have y6 := h 6 (by decide)
    rw [x6] at y6
    have z6 := hb 6
    have l0 : q + ((0 : Nat) : Int) < le_ b n q := Classical.byContradiction fun r => by rw [if_neg r] at y0; omega
    rw [if_pos l0, (z0 l0).2] at y0
    have l1 : q + ((1 : Nat) : Int) < le_ b n q := Classical.byContradiction fun r => by rw [if_neg r] at y1; omega
    rw [if_pos l1, (z1 l1).2] at y1
    have l2 : q + ((2 : Nat) : Int) < le_ b n q := Classical.byContradiction fun r => by rw [if_neg r] at y2; omega
    rw [if_pos l2, (z2 l2).2] at y2
    have l3 : q + ((3 : Nat) : Int) < le_ b n q := Classical.byContradiction fun r => by rw [if_neg r] at y3; omega
    rw [if_pos l3, (z3 l3).2] at y3
    have l4 : ¬ q + ((4 : Nat) : Int) < le_ b n q := fun r => by rw [if_pos r] at y4; have := z4 r; omega
    have l5 : ¬ q + ((5 : Nat) : Int) < le_ b n q := fun r => by rw [if_pos r] at y5; have := z5 r; omega
    have l6 : ¬ q + ((6 : Nat) : Int) < le_ b n q := fun r => by rw [if_pos r] at y6; have := z6 r; omega
    have el : (le_ b n q - q).toNat = 4 := by omega
    rw [if_pos (by omega), el, tws_8]
    show (256 * (256 * (256 * (256 * 0 + b (q + ((0 : Nat) : Int))) + b (q + ((1 : Nat) : Int))) + b (q + ((2 : Nat) : Int))) + b (q + ((3 : Nat) : Int))) = 1718773093
    omega
  · intro h
    by_cases hl : 0 < le_ b n q - q ∧ le_ b n q - q < 8
    · rw [if_pos hl, tws_8] at h
      have z0 := hb 0
      have z1 := hb 1
      have z2 := hb 2
      have z3 := hb 3
      have z4 := hb 4
      have z5 := hb 5
      have z6 := hb 6
      have hc : (le_ b n q - q).toNat = 1 ∨ (le_ b n q - q).toNat = 2 ∨ (le_ b n q - q).toNat = 3 ∨ (le_ b n q - q).toNat = 4 ∨ (le_ b n q - q).toNat = 5 ∨ (le_ b n q - q).toNat = 6 ∨ (le_ b n q - q).toNat = 7 := by omega
      rcases hc with el | el | el | el | el | el | el
      · rw [el] at h
        have h2 : (256 * 0 + b (q + ((0 : Nat) : Int))) = 1718773093 := h
        have v0 := z0 (by omega)
        omega
      · rw [el] at h
        have h2 : (256 * (256 * 0 + b (q + ((0 : Nat) : Int))) + b (q + ((1 : Nat) : Int))) = 1718773093 := h
        have v0 := z0 (by omega)
        have v1 := z1 (by omega)
        omega
      · rw [el] at h
        have h2 : (256 * (256 * (256 * 0 + b (q + ((0 : Nat) : Int))) + b (q + ((1 : Nat) : Int))) + b (q + ((2 : Nat) : Int))) = 1718773093 := h
        have v0 := z0 (by omega)
        have v1 := z1 (by omega)
        have v2 := z2 (by omega)
        omega
      · rw [el] at h
        have h2 : (256 * (256 * (256 * (256 * 0 + b (q + ((0 : Nat) : Int))) + b (q + ((1 : Nat) : Int))) + b (q + ((2 : Nat) : Int))) + b (q + ((3 : Nat) : Int))) = 1718773093 := h
        have v0 := z0 (by omega)
        have v1 := z1 (by omega)
        have v2 := z2 (by omega)
        have v3 := z3 (by omega)
        refine ⟨by omega, fun j hj => ?_⟩
        have hj7 : j = 0 ∨ j = 1 ∨ j = 2 ∨ j = 3 ∨ j = 4 ∨ j = 5 ∨ j = 6 := by omega
        rcases hj7 with r | r | r | r | r | r | r <;> subst r
        · rw [x0, if_pos (by omega), v0.2]; omega
        · rw [x1, if_pos (by omega), v1.2]; omega
        · rw [x2, if_pos (by omega), v2.2]; omega
        · rw [x3, if_pos (by omega), v3.2]; omega
        · rw [x4, if_neg (by omega)]
        · rw [x5, if_neg (by omega)]
        · rw [x6, if_neg (by omega)]
      · rw [el] at h
        have h2 : (256 * (256 * (256 * (256 * (256 * 0 + b (q + ((0 : Nat) : Int))) + b (q + ((1 : Nat) : Int))) + b (q + ((2 : Nat) : Int))) + b (q + ((3 : Nat) : Int))) + b (q + ((4 : Nat) : Int))) = 1718773093 := h
        have v0 := z0 (by omega)
        have v1 := z1 (by omega)
        have v2 := z2 (by omega)
        have v3 := z3 (by omega)
        have v4 := z4 (by omega)
        omega
      · rw [el] at h
        have h2 : (256 * (256 * (256 * (256 * (256 * (256 * 0 + b (q + ((0 : Nat) : Int))) + b (q + ((1 : Nat) : Int))) + b (q + ((2 : Nat) : Int))) + b (q + ((3 : Nat) : Int))) + b (q + ((4 : Nat) : Int))) + b (q + ((5 : Nat) : Int))) = 1718773093 := h
        have v0 := z0 (by omega)
        have v1 := z1 (by omega)
        have v2 := z2 (by omega)
        have v3 := z3 (by omega)
        have v4 := z4 (by omega)
        have v5 := z5 (by omega)
        omega
      · rw [el] at h
        have h2 : (256 * (256 * (256 * (256 * (256 * (256 * (256 * 0 + b (q + ((0 : Nat) : Int))) + b (q + ((1 : Nat) : Int))) + b (q + ((2 : Nat) : Int))) + b (q + ((3 : Nat) : Int))) + b (q + ((4 : Nat) : Int))) + b (q + ((5 : Nat) : Int))) + b (q + ((6 : Nat) : Int))) = 1718773093 := h
        have v0 := z0 (by omega)
        have v1 := z1 (by omega)
        have v2 := z2 (by omega)
        have v3 := z3 (by omega)
        have v4 := z4 (by omega)
        have v5 := z5 (by omega)
        have v6 := z6 (by omega)
        omega
    · rw [if_neg hl] at h; omega
theorem inm_9 {b : Int → Int} {n q : Int} (hT : TPO b n) (q0 : 0 ≤ q) : (le_ b n q - q ≤ 7 ∧ inm b n ((9 : Int) * 7) q (le_ b n q) = true) ↔ tw b n q = 9 := by
  have ha := le_all (b := b) (n := n) (p := q)
  have hb : ∀ j : Nat, q + (j : Int) < le_ b n q → (97 ≤ b (q + (j : Int)) ∧ b (q + (j : Int)) ≤ 122) ∧ tc b n (q + (j : Int)) = b (q + (j : Int)) := by
    intro j hj
    have h1 := of_decide_eq_true (ha.2.1 (q + (j : Int)) (by omega) hj)
    have h2 := tc_val hT (p := q + (j : Int)) (by omega) h1.1
    omega
  rw [inm_iff]
  unfold tw
  have x0 : xch ((9 : Int) * 7 + ((0 : Nat) : Int)) = 98 := by decide
  have x1 : xch ((9 : Int) * 7 + ((1 : Nat) : Int)) = 101 := by decide
  have x2 : xch ((9 : Int) * 7 + ((2 : Nat) : Int)) = 115 := by decide
  have x3 : xch ((9 : Int) * 7 + ((3 : Nat) : Int)) = 105 := by decide
  have x4 : xch ((9 : Int) * 7 + ((4 : Nat) : Int)) = 100 := by decide
  have x5 : xch ((9 : Int) * 7 + ((5 : Nat) : Int)) = 101 := by decide
  have x6 : xch ((9 : Int) * 7 + ((6 : Nat) : Int)) = 32 := by decide
  constructor
  · rintro ⟨h7, h⟩
    have y0 := h 0 (by decide)
    rw [x0] at y0
    have z0 := hb 0
    have y1 := h 1 (by decide)
    rw [x1] at y1
    have z1 := hb 1
    have y2 := h 2 (by decide)
    rw [x2] at y2
    have z2 := hb 2
    have y3 := h 3 (by decide)
    rw [x3] at y3
    have z3 := hb 3
    have y4 := h 4 (by decide)
    rw [x4] at y4
    have z4 := hb 4
    have y5 := h 5 (by decide)
    rw [x5] at y5
    have z5 := hb 5
    have y6 := h 6 (by decide)
    rw [x6] at y6
    have z6 := hb 6
    have l0 : q + ((0 : Nat) : Int) < le_ b n q := Classical.byContradiction fun r => by rw [if_neg r] at y0; omega
    rw [if_pos l0, (z0 l0).2] at y0
    have l1 : q + ((1 : Nat) : Int) < le_ b n q := Classical.byContradiction fun r => by rw [if_neg r] at y1; omega
    rw [if_pos l1, (z1 l1).2] at y1
    have l2 : q + ((2 : Nat) : Int) < le_ b n q := Classical.byContradiction fun r => by rw [if_neg r] at y2; omega
    rw [if_pos l2, (z2 l2).2] at y2
    have l3 : q + ((3 : Nat) : Int) < le_ b n q := Classical.byContradiction fun r => by rw [if_neg r] at y3; omega
    rw [if_pos l3, (z3 l3).2] at y3
    have l4 : q + ((4 : Nat) : Int) < le_ b n q := Classical.byContradiction fun r => by rw [if_neg r] at y4; omega
    rw [if_pos l4, (z4 l4).2] at y4
    have l5 : q + ((5 : Nat) : Int) < le_ b n q := Classical.byContradiction fun r => by rw [if_neg r] at y5; omega
    rw [if_pos l5, (z5 l5).2] at y5
    have l6 : ¬ q + ((6 : Nat) : Int) < le_ b n q := fun r => by rw [if_pos r] at y6; have := z6 r; omega
    have el : (le_ b n q - q).toNat = 6 := by omega
    rw [if_pos (by omega), el, tws_9]
    show (256 * (256 * (256 * (256 * (256 * (256 * 0 + b (q + ((0 : Nat) : Int))) + b (q + ((1 : Nat) : Int))) + b (q + ((2 : Nat) : Int))) + b (q + ((3 : Nat) : Int))) + b (q + ((4 : Nat) : Int))) + b (q + ((5 : Nat) : Int))) = 108187867505765
    omega
  · intro h
    by_cases hl : 0 < le_ b n q - q ∧ le_ b n q - q < 8
    · rw [if_pos hl, tws_9] at h
      have z0 := hb 0
      have z1 := hb 1
      have z2 := hb 2
      have z3 := hb 3
      have z4 := hb 4
      have z5 := hb 5
      have z6 := hb 6
      have hc : (le_ b n q - q).toNat = 1 ∨ (le_ b n q - q).toNat = 2 ∨ (le_ b n q - q).toNat = 3 ∨ (le_ b n q - q).toNat = 4 ∨ (le_ b n q - q).toNat = 5 ∨ (le_ b n q - q).toNat = 6 ∨ (le_ b n q - q).toNat = 7 := by omega
      rcases hc with el | el | el | el | el | el | el
      · rw [el] at h
        have h2 : (256 * 0 + b (q + ((0 : Nat) : Int))) = 108187867505765 := h
        have v0 := z0 (by omega)
        omega
      · rw [el] at h
        have h2 : (256 * (256 * 0 + b (q + ((0 : Nat) : Int))) + b (q + ((1 : Nat) : Int))) = 108187867505765 := h
        have v0 := z0 (by omega)
        have v1 := z1 (by omega)
        omega
      · rw [el] at h
        have h2 : (256 * (256 * (256 * 0 + b (q + ((0 : Nat) : Int))) + b (q + ((1 : Nat) : Int))) + b (q + ((2 : Nat) : Int))) = 108187867505765 := h
        have v0 := z0 (by omega)
        have v1 := z1 (by omega)
        have v2 := z2 (by omega)
        omega
      · rw [el] at h
        have h2 : (256 * (256 * (256 * (256 * 0 + b (q + ((0 : Nat) : Int))) + b (q + ((1 : Nat) : Int))) + b (q + ((2 : Nat) : Int))) + b (q + ((3 : Nat) : Int))) = 108187867505765 := h
        have v0 := z0 (by omega)
        have v1 := z1 (by omega)
        have v2 := z2 (by omega)
        have v3 := z3 (by omega)
        omega
      · rw [el] at h
        have h2 : (256 * (256 * (256 * (256 * (256 * 0 + b (q + ((0 : Nat) : Int))) + b (q + ((1 : Nat) : Int))) + b (q + ((2 : Nat) : Int))) + b (q + ((3 : Nat) : Int))) + b (q + ((4 : Nat) : Int))) = 108187867505765 := h
        have v0 := z0 (by omega)
        have v1 := z1 (by omega)
        have v2 := z2 (by omega)
        have v3 := z3 (by omega)
        have v4 := z4 (by omega)
        omega
      · rw [el] at h
        have h2 : (256 * (256 * (256 * (256 * (256 * (256 * 0 + b (q + ((0 : Nat) : Int))) + b (q + ((1 : Nat) : Int))) + b (q + ((2 : Nat) : Int))) + b (q + ((3 : Nat) : Int))) + b (q + ((4 : Nat) : Int))) + b (q + ((5 : Nat) : Int))) = 108187867505765 := h
        have v0 := z0 (by omega)
        have v1 := z1 (by omega)
        have v2 := z2 (by omega)
        have v3 := z3 (by omega)
        have v4 := z4 (by omega)
        have v5 := z5 (by omega)
        refine ⟨by omega, fun j hj => ?_⟩
        have hj7 : j = 0 ∨ j = 1 ∨ j = 2 ∨ j = 3 ∨ j = 4 ∨ j = 5 ∨ j = 6 := by omega
        rcases hj7 with r | r | r | r | r | r | r <;> subst r
        · rw [x0, if_pos (by omega), v0.2]; omega
        · rw [x1, if_pos (by omega), v1.2]; omega
        · rw [x2, if_pos (by omega), v2.2]; omega
        · rw [x3, if_pos (by omega), v3.2]; omega
        · rw [x4, if_pos (by omega), v4.2]; omega
        · rw [x5, if_pos (by omega), v5.2]; omega
        · rw [x6, if_neg (by omega)]
      · rw [el] at h
        have h2 : (256 * (256 * (256 * (256 * (256 * (256 * (256 * 0 + b (q + ((0 : Nat) : Int))) + b (q + ((1 : Nat) : Int))) + b (q + ((2 : Nat) : Int))) + b (q + ((3 : Nat) : Int))) + b (q + ((4 : Nat) : Int))) + b (q + ((5 : Nat) : Int))) + b (q + ((6 : Nat) : Int))) = 108187867505765 := h
        have v0 := z0 (by omega)
        have v1 := z1 (by omega)
        have v2 := z2 (by omega)
        have v3 := z3 (by omega)
        have v4 := z4 (by omega)
        have v5 := z5 (by omega)
        have v6 := z6 (by omega)
        omega
    · rw [if_neg hl] at h; omega
theorem inm_10 {b : Int → Int} {n q : Int} (hT : TPO b n) (q0 : 0 ≤ q) : (le_ b n q - q ≤ 7 ∧ inm b n ((10 : Int) * 7) q (le_ b n q) = true) ↔ tw b n q = 10 := by
  have ha := le_all (b := b) (n := n) (p := q)
  have hb : ∀ j : Nat, q + (j : Int) < le_ b n q → (97 ≤ b (q + (j : Int)) ∧ b (q + (j : Int)) ≤ 122) ∧ tc b n (q + (j : Int)) = b (q + (j : Int)) := by
    intro j hj
    have h1 := of_decide_eq_true (ha.2.1 (q + (j : Int)) (by omega) hj)
    have h2 := tc_val hT (p := q + (j : Int)) (by omega) h1.1
    omega
  rw [inm_iff]
  unfold tw
  have x0 : xch ((10 : Int) * 7 + ((0 : Nat) : Int)) = 109 := by decide
  have x1 : xch ((10 : Int) * 7 + ((1 : Nat) : Int)) = 105 := by decide
  have x2 : xch ((10 : Int) * 7 + ((2 : Nat) : Int)) = 110 := by decide
  have x3 : xch ((10 : Int) * 7 + ((3 : Nat) : Int)) = 101 := by decide
  have x4 : xch ((10 : Int) * 7 + ((4 : Nat) : Int)) = 32 := by decide
  have x5 : xch ((10 : Int) * 7 + ((5 : Nat) : Int)) = 32 := by decide
  have x6 : xch ((10 : Int) * 7 + ((6 : Nat) : Int)) = 32 := by decide
  constructor
  · rintro ⟨h7, h⟩
    have y0 := h 0 (by decide)
    rw [x0] at y0
    have z0 := hb 0
    have y1 := h 1 (by decide)
    rw [x1] at y1
    have z1 := hb 1
    have y2 := h 2 (by decide)
    rw [x2] at y2
    have z2 := hb 2
    have y3 := h 3 (by decide)
    rw [x3] at y3
    have z3 := hb 3
    have y4 := h 4 (by decide)
    rw [x4] at y4
    have z4 := hb 4
    have y5 := h 5 (by decide)
    rw [x5] at y5
    have z5 := hb 5
    have y6 := h 6 (by decide)
    rw [x6] at y6
    have z6 := hb 6
    have l0 : q + ((0 : Nat) : Int) < le_ b n q := Classical.byContradiction fun r => by rw [if_neg r] at y0; omega
    rw [if_pos l0, (z0 l0).2] at y0
    have l1 : q + ((1 : Nat) : Int) < le_ b n q := Classical.byContradiction fun r => by rw [if_neg r] at y1; omega
    rw [if_pos l1, (z1 l1).2] at y1
    have l2 : q + ((2 : Nat) : Int) < le_ b n q := Classical.byContradiction fun r => by rw [if_neg r] at y2; omega
    rw [if_pos l2, (z2 l2).2] at y2
    have l3 : q + ((3 : Nat) : Int) < le_ b n q := Classical.byContradiction fun r => by rw [if_neg r] at y3; omega
    rw [if_pos l3, (z3 l3).2] at y3
    have l4 : ¬ q + ((4 : Nat) : Int) < le_ b n q := fun r => by rw [if_pos r] at y4; have := z4 r; omega
    have l5 : ¬ q + ((5 : Nat) : Int) < le_ b n q := fun r => by rw [if_pos r] at y5; have := z5 r; omega
    have l6 : ¬ q + ((6 : Nat) : Int) < le_ b n q := fun r => by rw [if_pos r] at y6; have := z6 r; omega
    have el : (le_ b n q - q).toNat = 4 := by omega
    rw [if_pos (by omega), el, tws_10]
    show (256 * (256 * (256 * (256 * 0 + b (q + ((0 : Nat) : Int))) + b (q + ((1 : Nat) : Int))) + b (q + ((2 : Nat) : Int))) + b (q + ((3 : Nat) : Int))) = 1835626085
    omega
  · intro h
    by_cases hl : 0 < le_ b n q - q ∧ le_ b n q - q < 8
    · rw [if_pos hl, tws_10] at h
      have z0 := hb 0
      have z1 := hb 1
      have z2 := hb 2
      have z3 := hb 3
      have z4 := hb 4
      have z5 := hb 5
      have z6 := hb 6
      have hc : (le_ b n q - q).toNat = 1 ∨ (le_ b n q - q).toNat = 2 ∨ (le_ b n q - q).toNat = 3 ∨ (le_ b n q - q).toNat = 4 ∨ (le_ b n q - q).toNat = 5 ∨ (le_ b n q - q).toNat = 6 ∨ (le_ b n q - q).toNat = 7 := by omega
      rcases hc with el | el | el | el | el | el | el
      · rw [el] at h
        have h2 : (256 * 0 + b (q + ((0 : Nat) : Int))) = 1835626085 := h
        have v0 := z0 (by omega)
        omega
      · rw [el] at h
        have h2 : (256 * (256 * 0 + b (q + ((0 : Nat) : Int))) + b (q + ((1 : Nat) : Int))) = 1835626085 := h
        have v0 := z0 (by omega)
        have v1 := z1 (by omega)
        omega
      · rw [el] at h
        have h2 : (256 * (256 * (256 * 0 + b (q + ((0 : Nat) : Int))) + b (q + ((1 : Nat) : Int))) + b (q + ((2 : Nat) : Int))) = 1835626085 := h
        have v0 := z0 (by omega)
        have v1 := z1 (by omega)
        have v2 := z2 (by omega)
        omega
      · rw [el] at h
        have h2 : (256 * (256 * (256 * (256 * 0 + b (q + ((0 : Nat) : Int))) + b (q + ((1 : Nat) : Int))) + b (q + ((2 : Nat) : Int))) + b (q + ((3 : Nat) : Int))) = 1835626085 := h
        have v0 := z0 (by omega)
        have v1 := z1 (by omega)
        have v2 := z2 (by omega)
        have v3 := z3 (by omega)
        refine ⟨by omega, fun j hj => ?_⟩
        have hj7 : j = 0 ∨ j = 1 ∨ j = 2 ∨ j = 3 ∨ j = 4 ∨ j = 5 ∨ j = 6 := by omega
        rcases hj7 with r | r | r | r | r | r | r <;> subst r
        · rw [x0, if_pos (by omega), v0.2]; omega
        · rw [x1, if_pos (by omega), v1.2]; omega
        · rw [x2, if_pos (by omega), v2.2]; omega
        · rw [x3, if_pos (by omega), v3.2]; omega
        · rw [x4, if_neg (by omega)]
        · rw [x5, if_neg (by omega)]
        · rw [x6, if_neg (by omega)]
      · rw [el] at h
        have h2 : (256 * (256 * (256 * (256 * (256 * 0 + b (q + ((0 : Nat) : Int))) + b (q + ((1 : Nat) : Int))) + b (q + ((2 : Nat) : Int))) + b (q + ((3 : Nat) : Int))) + b (q + ((4 : Nat) : Int))) = 1835626085 := h
        have v0 := z0 (by omega)
        have v1 := z1 (by omega)
        have v2 := z2 (by omega)
        have v3 := z3 (by omega)
        have v4 := z4 (by omega)
        omega
      · rw [el] at h
        have h2 : (256 * (256 * (256 * (256 * (256 * (256 * 0 + b (q + ((0 : Nat) : Int))) + b (q + ((1 : Nat) : Int))) + b (q + ((2 : Nat) : Int))) + b (q + ((3 : Nat) : Int))) + b (q + ((4 : Nat) : Int))) + b (q + ((5 : Nat) : Int))) = 1835626085 := h
        have v0 := z0 (by omega)
        have v1 := z1 (by omega)
        have v2 := z2 (by omega)
        have v3 := z3 (by omega)
        have v4 := z4 (by omega)
        have v5 := z5 (by omega)
        omega
      · rw [el] at h
        have h2 : (256 * (256 * (256 * (256 * (256 * (256 * (256 * 0 + b (q + ((0 : Nat) : Int))) + b (q + ((1 : Nat) : Int))) + b (q + ((2 : Nat) : Int))) + b (q + ((3 : Nat) : Int))) + b (q + ((4 : Nat) : Int))) + b (q + ((5 : Nat) : Int))) + b (q + ((6 : Nat) : Int))) = 1835626085 := h
        have v0 := z0 (by omega)
        have v1 := z1 (by omega)
        have v2 := z2 (by omega)
        have v3 := z3 (by omega)
        have v4 := z4 (by omega)
        have v5 := z5 (by omega)
        have v6 := z6 (by omega)
        omega
    · rw [if_neg hl] at h; omega
theorem inm_11 {b : Int → Int} {n q : Int} (hT : TPO b n) (q0 : 0 ≤ q) : (le_ b n q - q ≤ 7 ∧ inm b n ((11 : Int) * 7) q (le_ b n q) = true) ↔ tw b n q = 11 := by
  have ha := le_all (b := b) (n := n) (p := q)
  have hb : ∀ j : Nat, q + (j : Int) < le_ b n q → (97 ≤ b (q + (j : Int)) ∧ b (q + (j : Int)) ≤ 122) ∧ tc b n (q + (j : Int)) = b (q + (j : Int)) := by
    intro j hj
    have h1 := of_decide_eq_true (ha.2.1 (q + (j : Int)) (by omega) hj)
    have h2 := tc_val hT (p := q + (j : Int)) (by omega) h1.1
    omega
  rw [inm_iff]
  unfold tw
  have x0 : xch ((11 : Int) * 7 + ((0 : Nat) : Int)) = 116 := by decide
  have x1 : xch ((11 : Int) * 7 + ((1 : Nat) : Int)) = 117 := by decide
  have x2 : xch ((11 : Int) * 7 + ((2 : Nat) : Int)) = 114 := by decide
  have x3 : xch ((11 : Int) * 7 + ((3 : Nat) : Int)) = 110 := by decide
  have x4 : xch ((11 : Int) * 7 + ((4 : Nat) : Int)) = 32 := by decide
  have x5 : xch ((11 : Int) * 7 + ((5 : Nat) : Int)) = 32 := by decide
  have x6 : xch ((11 : Int) * 7 + ((6 : Nat) : Int)) = 32 := by decide
  constructor
  · rintro ⟨h7, h⟩
    have y0 := h 0 (by decide)
    rw [x0] at y0
    have z0 := hb 0
    have y1 := h 1 (by decide)
    rw [x1] at y1
    have z1 := hb 1
    have y2 := h 2 (by decide)
    rw [x2] at y2
    have z2 := hb 2
    have y3 := h 3 (by decide)
    rw [x3] at y3
    have z3 := hb 3
    have y4 := h 4 (by decide)
    rw [x4] at y4
    have z4 := hb 4
    have y5 := h 5 (by decide)
    rw [x5] at y5
    have z5 := hb 5
    have y6 := h 6 (by decide)
    rw [x6] at y6
    have z6 := hb 6
    have l0 : q + ((0 : Nat) : Int) < le_ b n q := Classical.byContradiction fun r => by rw [if_neg r] at y0; omega
    rw [if_pos l0, (z0 l0).2] at y0
    have l1 : q + ((1 : Nat) : Int) < le_ b n q := Classical.byContradiction fun r => by rw [if_neg r] at y1; omega
    rw [if_pos l1, (z1 l1).2] at y1
    have l2 : q + ((2 : Nat) : Int) < le_ b n q := Classical.byContradiction fun r => by rw [if_neg r] at y2; omega
    rw [if_pos l2, (z2 l2).2] at y2
    have l3 : q + ((3 : Nat) : Int) < le_ b n q := Classical.byContradiction fun r => by rw [if_neg r] at y3; omega
    rw [if_pos l3, (z3 l3).2] at y3
    have l4 : ¬ q + ((4 : Nat) : Int) < le_ b n q := fun r => by rw [if_pos r] at y4; have := z4 r; omega
    have l5 : ¬ q + ((5 : Nat) : Int) < le_ b n q := fun r => by rw [if_pos r] at y5; have := z5 r; omega
    have l6 : ¬ q + ((6 : Nat) : Int) < le_ b n q := fun r => by rw [if_pos r] at y6; have := z6 r; omega
    have el : (le_ b n q - q).toNat = 4 := by omega
    rw [if_pos (by omega), el, tws_11]
    show (256 * (256 * (256 * (256 * 0 + b (q + ((0 : Nat) : Int))) + b (q + ((1 : Nat) : Int))) + b (q + ((2 : Nat) : Int))) + b (q + ((3 : Nat) : Int))) = 1953854062
    omega
  · intro h
    by_cases hl : 0 < le_ b n q - q ∧ le_ b n q - q < 8
    · rw [if_pos hl, tws_11] at h
      have z0 := hb 0
      have z1 := hb 1
      have z2 := hb 2
      have z3 := hb 3
      have z4 := hb 4
      have z5 := hb 5
      have z6 := hb 6
      have hc : (le_ b n q - q).toNat = 1 ∨ (le_ b n q - q).toNat = 2 ∨ (le_ b n q - q).toNat = 3 ∨ (le_ b n q - q).toNat = 4 ∨ (le_ b n q - q).toNat = 5 ∨ (le_ b n q - q).toNat = 6 ∨ (le_ b n q - q).toNat = 7 := by omega
      rcases hc with el | el | el | el | el | el | el
      · rw [el] at h
        have h2 : (256 * 0 + b (q + ((0 : Nat) : Int))) = 1953854062 := h
        have v0 := z0 (by omega)
        omega
      · rw [el] at h
        have h2 : (256 * (256 * 0 + b (q + ((0 : Nat) : Int))) + b (q + ((1 : Nat) : Int))) = 1953854062 := h
        have v0 := z0 (by omega)
        have v1 := z1 (by omega)
        omega
      · rw [el] at h
        have h2 : (256 * (256 * (256 * 0 + b (q + ((0 : Nat) : Int))) + b (q + ((1 : Nat) : Int))) + b (q + ((2 : Nat) : Int))) = 1953854062 := h
        have v0 := z0 (by omega)
        have v1 := z1 (by omega)
        have v2 := z2 (by omega)
        omega
      · rw [el] at h
        have h2 : (256 * (256 * (256 * (256 * 0 + b (q + ((0 : Nat) : Int))) + b (q + ((1 : Nat) : Int))) + b (q + ((2 : Nat) : Int))) + b (q + ((3 : Nat) : Int))) = 1953854062 := h
        have v0 := z0 (by omega)
        have v1 := z1 (by omega)
        have v2 := z2 (by omega)
        have v3 := z3 (by omega)
        refine ⟨by omega, fun j hj => ?_⟩
        have hj7 : j = 0 ∨ j = 1 ∨ j = 2 ∨ j = 3 ∨ j = 4 ∨ j = 5 ∨ j = 6 := by omega
        rcases hj7 with r | r | r | r | r | r | r <;> subst r
        · rw [x0, if_pos (by omega), v0.2]; omega
        · rw [x1, if_pos (by omega), v1.2]; omega
        · rw [x2, if_pos (by omega), v2.2]; omega
        · rw [x3, if_pos (by omega), v3.2]; omega
        · rw [x4, if_neg (by omega)]
        · rw [x5, if_neg (by omega)]
        · rw [x6, if_neg (by omega)]
      · rw [el] at h
        have h2 : (256 * (256 * (256 * (256 * (256 * 0 + b (q + ((0 : Nat) : Int))) + b (q + ((1 : Nat) : Int))) + b (q + ((2 : Nat) : Int))) + b (q + ((3 : Nat) : Int))) + b (q + ((4 : Nat) : Int))) = 1953854062 := h
        have v0 := z0 (by omega)
        have v1 := z1 (by omega)
        have v2 := z2 (by omega)
        have v3 := z3 (by omega)
        have v4 := z4 (by omega)
        omega
      · rw [el] at h
        have h2 : (256 * (256 * (256 * (256 * (256 * (256 * 0 + b (q + ((0 : Nat) : Int))) + b (q + ((1 : Nat) : Int))) + b (q + ((2 : Nat) : Int))) + b (q + ((3 : Nat) : Int))) + b (q + ((4 : Nat) : Int))) + b (q + ((5 : Nat) : Int))) = 1953854062 := h
        have v0 := z0 (by omega)
        have v1 := z1 (by omega)
        have v2 := z2 (by omega)
        have v3 := z3 (by omega)
        have v4 := z4 (by omega)
        have v5 := z5 (by omega)
        omega
      · rw [el] at h
        have h2 : (256 * (256 * (256 * (256 * (256 * (256 * (256 * 0 + b (q + ((0 : Nat) : Int))) + b (q + ((1 : Nat) : Int))) + b (q + ((2 : Nat) : Int))) + b (q + ((3 : Nat) : Int))) + b (q + ((4 : Nat) : Int))) + b (q + ((5 : Nat) : Int))) + b (q + ((6 : Nat) : Int))) = 1953854062 := h
        have v0 := z0 (by omega)
        have v1 := z1 (by omega)
        have v2 := z2 (by omega)
        have v3 := z3 (by omega)
        have v4 := z4 (by omega)
        have v5 := z5 (by omega)
        have v6 := z6 (by omega)
        omega
    · rw [if_neg hl] at h; omega
theorem inm_12 {b : Int → Int} {n q : Int} (hT : TPO b n) (q0 : 0 ≤ q) : (le_ b n q - q ≤ 7 ∧ inm b n ((12 : Int) * 7) q (le_ b n q) = true) ↔ tw b n q = 12 := by
  have ha := le_all (b := b) (n := n) (p := q)
  have hb : ∀ j : Nat, q + (j : Int) < le_ b n q → (97 ≤ b (q + (j : Int)) ∧ b (q + (j : Int)) ≤ 122) ∧ tc b n (q + (j : Int)) = b (q + (j : Int)) := by
    intro j hj
    have h1 := of_decide_eq_true (ha.2.1 (q + (j : Int)) (by omega) hj)
    have h2 := tc_val hT (p := q + (j : Int)) (by omega) h1.1
    omega
  rw [inm_iff]
  unfold tw
  have x0 : xch ((12 : Int) * 7 + ((0 : Nat) : Int)) = 99 := by decide
  have x1 : xch ((12 : Int) * 7 + ((1 : Nat) : Int)) = 97 := by decide
  have x2 : xch ((12 : Int) * 7 + ((2 : Nat) : Int)) = 107 := by decide
  have x3 : xch ((12 : Int) * 7 + ((3 : Nat) : Int)) = 101 := by decide
  have x4 : xch ((12 : Int) * 7 + ((4 : Nat) : Int)) = 32 := by decide
  have x5 : xch ((12 : Int) * 7 + ((5 : Nat) : Int)) = 32 := by decide
  have x6 : xch ((12 : Int) * 7 + ((6 : Nat) : Int)) = 32 := by decide
  constructor
  · rintro ⟨h7, h⟩
    have y0 := h 0 (by decide)
    rw [x0] at y0
    have z0 := hb 0
    have y1 := h 1 (by decide)
    rw [x1] at y1
    have z1 := hb 1
    have y2 := h 2 (by decide)
    rw [x2] at y2
    have z2 := hb 2
    have y3 := h 3 (by decide)
    rw [x3] at y3
    have z3 := hb 3
    have y4 := h 4 (by decide)
    rw [x4] at y4
    have z4 := hb 4
    have y5 := h 5 (by decide)
    rw [x5] at y5
    have z5 := hb 5
    have y6 := h 6 (by decide)
    rw [x6] at y6
    have z6 := hb 6
    have l0 : q + ((0 : Nat) : Int) < le_ b n q := Classical.byContradiction fun r => by rw [if_neg r] at y0; omega
    rw [if_pos l0, (z0 l0).2] at y0
    have l1 : q + ((1 : Nat) : Int) < le_ b n q := Classical.byContradiction fun r => by rw [if_neg r] at y1; omega
    rw [if_pos l1, (z1 l1).2] at y1
    have l2 : q + ((2 : Nat) : Int) < le_ b n q := Classical.byContradiction fun r => by rw [if_neg r] at y2; omega
    rw [if_pos l2, (z2 l2).2] at y2
    have l3 : q + ((3 : Nat) : Int) < le_ b n q := Classical.byContradiction fun r => by rw [if_neg r] at y3; omega
    rw [if_pos l3, (z3 l3).2] at y3
    have l4 : ¬ q + ((4 : Nat) : Int) < le_ b n q := fun r => by rw [if_pos r] at y4; have := z4 r; omega
    have l5 : ¬ q + ((5 : Nat) : Int) < le_ b n q := fun r => by rw [if_pos r] at y5; have := z5 r; omega
    have l6 : ¬ q + ((6 : Nat) : Int) < le_ b n q := fun r => by rw [if_pos r] at y6; have := z6 r; omega
    have el : (le_ b n q - q).toNat = 4 := by omega
    rw [if_pos (by omega), el, tws_12]
    show (256 * (256 * (256 * (256 * 0 + b (q + ((0 : Nat) : Int))) + b (q + ((1 : Nat) : Int))) + b (q + ((2 : Nat) : Int))) + b (q + ((3 : Nat) : Int))) = 1667328869
    omega
  · intro h
    by_cases hl : 0 < le_ b n q - q ∧ le_ b n q - q < 8
    · rw [if_pos hl, tws_12] at h
      have z0 := hb 0
      have z1 := hb 1
      have z2 := hb 2
      have z3 := hb 3
      have z4 := hb 4
      have z5 := hb 5
      have z6 := hb 6
      have hc : (le_ b n q - q).toNat = 1 ∨ (le_ b n q - q).toNat = 2 ∨ (le_ b n q - q).toNat = 3 ∨ (le_ b n q - q).toNat = 4 ∨ (le_ b n q - q).toNat = 5 ∨ (le_ b n q - q).toNat = 6 ∨ (le_ b n q - q).toNat = 7 := by omega
      rcases hc with el | el | el | el | el | el | el
      · rw [el] at h
        have h2 : (256 * 0 + b (q + ((0 : Nat) : Int))) = 1667328869 := h
        have v0 := z0 (by omega)
        omega
      · rw [el] at h
        have h2 : (256 * (256 * 0 + b (q + ((0 : Nat) : Int))) + b (q + ((1 : Nat) : Int))) = 1667328869 := h
        have v0 := z0 (by omega)
        have v1 := z1 (by omega)
        omega
      · rw [el] at h
        have h2 : (256 * (256 * (256 * 0 + b (q + ((0 : Nat) : Int))) + b (q + ((1 : Nat) : Int))) + b (q + ((2 : Nat) : Int))) = 1667328869 := h
        have v0 := z0 (by omega)
        have v1 := z1 (by omega)
        have v2 := z2 (by omega)
        omega
      · rw [el] at h
        have h2 : (256 * (256 * (256 * (256 * 0 + b (q + ((0 : Nat) : Int))) + b (q + ((1 : Nat) : Int))) + b (q + ((2 : Nat) : Int))) + b (q + ((3 : Nat) : Int))) = 1667328869 := h
        have v0 := z0 (by omega)
        have v1 := z1 (by omega)
        have v2 := z2 (by omega)
        have v3 := z3 (by omega)
        refine ⟨by omega, fun j hj => ?_⟩
        have hj7 : j = 0 ∨ j = 1 ∨ j = 2 ∨ j = 3 ∨ j = 4 ∨ j = 5 ∨ j = 6 := by omega
        rcases hj7 with r | r | r | r | r | r | r <;> subst r
        · rw [x0, if_pos (by omega), v0.2]; omega
        · rw [x1, if_pos (by omega), v1.2]; omega
        · rw [x2, if_pos (by omega), v2.2]; omega
        · rw [x3, if_pos (by omega), v3.2]; omega
        · rw [x4, if_neg (by omega)]
        · rw [x5, if_neg (by omega)]
        · rw [x6, if_neg (by omega)]
      · rw [el] at h
        have h2 : (256 * (256 * (256 * (256 * (256 * 0 + b (q + ((0 : Nat) : Int))) + b (q + ((1 : Nat) : Int))) + b (q + ((2 : Nat) : Int))) + b (q + ((3 : Nat) : Int))) + b (q + ((4 : Nat) : Int))) = 1667328869 := h
        have v0 := z0 (by omega)
        have v1 := z1 (by omega)
        have v2 := z2 (by omega)
        have v3 := z3 (by omega)
        have v4 := z4 (by omega)
        omega
      · rw [el] at h
        have h2 : (256 * (256 * (256 * (256 * (256 * (256 * 0 + b (q + ((0 : Nat) : Int))) + b (q + ((1 : Nat) : Int))) + b (q + ((2 : Nat) : Int))) + b (q + ((3 : Nat) : Int))) + b (q + ((4 : Nat) : Int))) + b (q + ((5 : Nat) : Int))) = 1667328869 := h
        have v0 := z0 (by omega)
        have v1 := z1 (by omega)
        have v2 := z2 (by omega)
        have v3 := z3 (by omega)
        have v4 := z4 (by omega)
        have v5 := z5 (by omega)
        omega
      · rw [el] at h
        have h2 : (256 * (256 * (256 * (256 * (256 * (256 * (256 * 0 + b (q + ((0 : Nat) : Int))) + b (q + ((1 : Nat) : Int))) + b (q + ((2 : Nat) : Int))) + b (q + ((3 : Nat) : Int))) + b (q + ((4 : Nat) : Int))) + b (q + ((5 : Nat) : Int))) + b (q + ((6 : Nat) : Int))) = 1667328869 := h
        have v0 := z0 (by omega)
        have v1 := z1 (by omega)
        have v2 := z2 (by omega)
        have v3 := z3 (by omega)
        have v4 := z4 (by omega)
        have v5 := z5 (by omega)
        have v6 := z6 (by omega)
        omega
    · rw [if_neg hl] at h; omega
theorem inm_13 {b : Int → Int} {n q : Int} (hT : TPO b n) (q0 : 0 ≤ q) : (le_ b n q - q ≤ 7 ∧ inm b n ((13 : Int) * 7) q (le_ b n q) = true) ↔ tw b n q = 13 := by
  have ha := le_all (b := b) (n := n) (p := q)
  have hb : ∀ j : Nat, q + (j : Int) < le_ b n q → (97 ≤ b (q + (j : Int)) ∧ b (q + (j : Int)) ≤ 122) ∧ tc b n (q + (j : Int)) = b (q + (j : Int)) := by
    intro j hj
    have h1 := of_decide_eq_true (ha.2.1 (q + (j : Int)) (by omega) hj)
    have h2 := tc_val hT (p := q + (j : Int)) (by omega) h1.1
    omega
  rw [inm_iff]
  unfold tw
  have x0 : xch ((13 : Int) * 7 + ((0 : Nat) : Int)) = 116 := by decide
  have x1 : xch ((13 : Int) * 7 + ((1 : Nat) : Int)) = 97 := by decide
  have x2 : xch ((13 : Int) * 7 + ((2 : Nat) : Int)) = 107 := by decide
  have x3 : xch ((13 : Int) * 7 + ((3 : Nat) : Int)) = 101 := by decide
  have x4 : xch ((13 : Int) * 7 + ((4 : Nat) : Int)) = 32 := by decide
  have x5 : xch ((13 : Int) * 7 + ((5 : Nat) : Int)) = 32 := by decide
  have x6 : xch ((13 : Int) * 7 + ((6 : Nat) : Int)) = 32 := by decide
  constructor
  · rintro ⟨h7, h⟩
    have y0 := h 0 (by decide)
    rw [x0] at y0
    have z0 := hb 0
    have y1 := h 1 (by decide)
    rw [x1] at y1
    have z1 := hb 1
    have y2 := h 2 (by decide)
    rw [x2] at y2
    have z2 := hb 2
    have y3 := h 3 (by decide)
    rw [x3] at y3
    have z3 := hb 3
    have y4 := h 4 (by decide)
    rw [x4] at y4
    have z4 := hb 4
    have y5 := h 5 (by decide)
    rw [x5] at y5
    have z5 := hb 5
    have y6 := h 6 (by decide)
    rw [x6] at y6
    have z6 := hb 6
    have l0 : q + ((0 : Nat) : Int) < le_ b n q := Classical.byContradiction fun r => by rw [if_neg r] at y0; omega
    rw [if_pos l0, (z0 l0).2] at y0
    have l1 : q + ((1 : Nat) : Int) < le_ b n q := Classical.byContradiction fun r => by rw [if_neg r] at y1; omega
    rw [if_pos l1, (z1 l1).2] at y1
    have l2 : q + ((2 : Nat) : Int) < le_ b n q := Classical.byContradiction fun r => by rw [if_neg r] at y2; omega
    rw [if_pos l2, (z2 l2).2] at y2
    have l3 : q + ((3 : Nat) : Int) < le_ b n q := Classical.byContradiction fun r => by rw [if_neg r] at y3; omega
    rw [if_pos l3, (z3 l3).2] at y3
    have l4 : ¬ q + ((4 : Nat) : Int) < le_ b n q := fun r => by rw [if_pos r] at y4; have := z4 r; omega
    have l5 : ¬ q + ((5 : Nat) : Int) < le_ b n q := fun r => by rw [if_pos r] at y5; have := z5 r; omega
    have l6 : ¬ q + ((6 : Nat) : Int) < le_ b n q := fun r => by rw [if_pos r] at y6; have := z6 r; omega
    have el : (le_ b n q - q).toNat = 4 := by omega
    rw [if_pos (by omega), el, tws_13]
    show (256 * (256 * (256 * (256 * 0 + b (q + ((0 : Nat) : Int))) + b (q + ((1 : Nat) : Int))) + b (q + ((2 : Nat) : Int))) + b (q + ((3 : Nat) : Int))) = 1952541541
    omega
  · intro h
    by_cases hl : 0 < le_ b n q - q ∧ le_ b n q - q < 8
    · rw [if_pos hl, tws_13] at h
      have z0 := hb 0
      have z1 := hb 1
      have z2 := hb 2
      have z3 := hb 3
      have z4 := hb 4
      have z5 := hb 5
      have z6 := hb 6
      have hc : (le_ b n q - q).toNat = 1 ∨ (le_ b n q - q).toNat = 2 ∨ (le_ b n q - q).toNat = 3 ∨ (le_ b n q - q).toNat = 4 ∨ (le_ b n q - q).toNat = 5 ∨ (le_ b n q - q).toNat = 6 ∨ (le_ b n q - q).toNat = 7 := by omega
      rcases hc with el | el | el | el | el | el | el
      · rw [el] at h
        have h2 : (256 * 0 + b (q + ((0 : Nat) : Int))) = 1952541541 := h
        have v0 := z0 (by omega)
        omega
      · rw [el] at h
        have h2 : (256 * (256 * 0 + b (q + ((0 : Nat) : Int))) + b (q + ((1 : Nat) : Int))) = 1952541541 := h
        have v0 := z0 (by omega)
        have v1 := z1 (by omega)
        omega
      · rw [el] at h
        have h2 : (256 * (256 * (256 * 0 + b (q + ((0 : Nat) : Int))) + b (q + ((1 : Nat) : Int))) + b (q + ((2 : Nat) : Int))) = 1952541541 := h
        have v0 := z0 (by omega)
        have v1 := z1 (by omega)
        have v2 := z2 (by omega)
        omega
      · rw [el] at h
        have h2 : (256 * (256 * (256 * (256 * 0 + b (q + ((0 : Nat) : Int))) + b (q + ((1 : Nat) : Int))) + b (q + ((2 : Nat) : Int))) + b (q + ((3 : Nat) : Int))) = 1952541541 := h
        have v0 := z0 (by omega)
        have v1 := z1 (by omega)
        have v2 := z2 (by omega)
        have v3 := z3 (by omega)
        refine ⟨by omega, fun j hj => ?_⟩
        have hj7 : j = 0 ∨ j = 1 ∨ j = 2 ∨ j = 3 ∨ j = 4 ∨ j = 5 ∨ j = 6 := by omega
        rcases hj7 with r | r | r | r | r | r | r <;> subst r
        · rw [x0, if_pos (by omega), v0.2]; omega
        · rw [x1, if_pos (by omega), v1.2]; omega
        · rw [x2, if_pos (by omega), v2.2]; omega
        · rw [x3, if_pos (by omega), v3.2]; omega
        · rw [x4, if_neg (by omega)]
        · rw [x5, if_neg (by omega)]
        · rw [x6, if_neg (by omega)]
      · rw [el] at h
        have h2 : (256 * (256 * (256 * (256 * (256 * 0 + b (q + ((0 : Nat) : Int))) + b (q + ((1 : Nat) : Int))) + b (q + ((2 : Nat) : Int))) + b (q + ((3 : Nat) : Int))) + b (q + ((4 : Nat) : Int))) = 1952541541 := h
        have v0 := z0 (by omega)
        have v1 := z1 (by omega)
        have v2 := z2 (by omega)
        have v3 := z3 (by omega)
        have v4 := z4 (by omega)
        omega
      · rw [el] at h
        have h2 : (256 * (256 * (256 * (256 * (256 * (256 * 0 + b (q + ((0 : Nat) : Int))) + b (q + ((1 : Nat) : Int))) + b (q + ((2 : Nat) : Int))) + b (q + ((3 : Nat) : Int))) + b (q + ((4 : Nat) : Int))) + b (q + ((5 : Nat) : Int))) = 1952541541 := h
        have v0 := z0 (by omega)
        have v1 := z1 (by omega)
        have v2 := z2 (by omega)
        have v3 := z3 (by omega)
        have v4 := z4 (by omega)
        have v5 := z5 (by omega)
        omega
      · rw [el] at h
        have h2 : (256 * (256 * (256 * (256 * (256 * (256 * (256 * 0 + b (q + ((0 : Nat) : Int))) + b (q + ((1 : Nat) : Int))) + b (q + ((2 : Nat) : Int))) + b (q + ((3 : Nat) : Int))) + b (q + ((4 : Nat) : Int))) + b (q + ((5 : Nat) : Int))) + b (q + ((6 : Nat) : Int))) = 1952541541 := h
        have v0 := z0 (by omega)
        have v1 := z1 (by omega)
        have v2 := z2 (by omega)
        have v3 := z3 (by omega)
        have v4 := z4 (by omega)
        have v5 := z5 (by omega)
        have v6 := z6 (by omega)
        omega
    · rw [if_neg hl] at h; omega
theorem inm_14 {b : Int → Int} {n q : Int} (hT : TPO b n) (q0 : 0 ≤ q) : (le_ b n q - q ≤ 7 ∧ inm b n ((14 : Int) * 7) q (le_ b n q) = true) ↔ tw b n q = 14 := by
  have ha := le_all (b := b) (n := n) (p := q)
  have hb : ∀ j : Nat, q + (j : Int) < le_ b n q → (97 ≤ b (q + (j : Int)) ∧ b (q + (j : Int)) ≤ 122) ∧ tc b n (q + (j : Int)) = b (q + (j : Int)) := by
    intro j hj
    have h1 := of_decide_eq_true (ha.2.1 (q + (j : Int)) (by omega) hj)
    have h2 := tc_val hT (p := q + (j : Int)) (by omega) h1.1
    omega
  rw [inm_iff]
  unfold tw
  have x0 : xch ((14 : Int) * 7 + ((0 : Nat) : Int)) = 105 := by decide
  have x1 : xch ((14 : Int) * 7 + ((1 : Nat) : Int)) = 102 := by decide
  have x2 : xch ((14 : Int) * 7 + ((2 : Nat) : Int)) = 32 := by decide
  have x3 : xch ((14 : Int) * 7 + ((3 : Nat) : Int)) = 32 := by decide
  have x4 : xch ((14 : Int) * 7 + ((4 : Nat) : Int)) = 32 := by decide
  have x5 : xch ((14 : Int) * 7 + ((5 : Nat) : Int)) = 32 := by decide
  have x6 : xch ((14 : Int) * 7 + ((6 : Nat) : Int)) = 32 := by decide
  constructor
  · rintro ⟨h7, h⟩
    have y0 := h 0 (by decide)
    rw [x0] at y0
    have z0 := hb 0
    have y1 := h 1 (by decide)
    rw [x1] at y1
    have z1 := hb 1
    have y2 := h 2 (by decide)
    rw [x2] at y2
    have z2 := hb 2
    have y3 := h 3 (by decide)
    rw [x3] at y3
    have z3 := hb 3
    have y4 := h 4 (by decide)
    rw [x4] at y4
    have z4 := hb 4
    have y5 := h 5 (by decide)
    rw [x5] at y5
    have z5 := hb 5
    have y6 := h 6 (by decide)
    rw [x6] at y6
    have z6 := hb 6
    have l0 : q + ((0 : Nat) : Int) < le_ b n q := Classical.byContradiction fun r => by rw [if_neg r] at y0; omega
    rw [if_pos l0, (z0 l0).2] at y0
    have l1 : q + ((1 : Nat) : Int) < le_ b n q := Classical.byContradiction fun r => by rw [if_neg r] at y1; omega
    rw [if_pos l1, (z1 l1).2] at y1
    have l2 : ¬ q + ((2 : Nat) : Int) < le_ b n q := fun r => by rw [if_pos r] at y2; have := z2 r; omega
    have l3 : ¬ q + ((3 : Nat) : Int) < le_ b n q := fun r => by rw [if_pos r] at y3; have := z3 r; omega
    have l4 : ¬ q + ((4 : Nat) : Int) < le_ b n q := fun r => by rw [if_pos r] at y4; have := z4 r; omega
    have l5 : ¬ q + ((5 : Nat) : Int) < le_ b n q := fun r => by rw [if_pos r] at y5; have := z5 r; omega
    have l6 : ¬ q + ((6 : Nat) : Int) < le_ b n q := fun r => by rw [if_pos r] at y6; have := z6 r; omega
    have el : (le_ b n q - q).toNat = 2 := by omega
    rw [if_pos (by omega), el, tws_14]
    show (256 * (256 * 0 + b (q + ((0 : Nat) : Int))) + b (q + ((1 : Nat) : Int))) = 26982
    omega
  · intro h
    by_cases hl : 0 < le_ b n q - q ∧ le_ b n q - q < 8
    · rw [if_pos hl, tws_14] at h
      have z0 := hb 0
      have z1 := hb 1
      have z2 := hb 2
      have z3 := hb 3
      have z4 := hb 4
      have z5 := hb 5
      have z6 := hb 6
      have hc : (le_ b n q - q).toNat = 1 ∨ (le_ b n q - q).toNat = 2 ∨ (le_ b n q - q).toNat = 3 ∨ (le_ b n q - q).toNat = 4 ∨ (le_ b n q - q).toNat = 5 ∨ (le_ b n q - q).toNat = 6 ∨ (le_ b n q - q).toNat = 7 := by omega
      rcases hc with el | el | el | el | el | el | el
      · rw [el] at h
        have h2 : (256 * 0 + b (q + ((0 : Nat) : Int))) = 26982 := h
        have v0 := z0 (by omega)
        omega
      · rw [el] at h
        have h2 : (256 * (256 * 0 + b (q + ((0 : Nat) : Int))) + b (q + ((1 : Nat) : Int))) = 26982 := h
        have v0 := z0 (by omega)
        have v1 := z1 (by omega)
        refine ⟨by omega, fun j hj => ?_⟩
        have hj7 : j = 0 ∨ j = 1 ∨ j = 2 ∨ j = 3 ∨ j = 4 ∨ j = 5 ∨ j = 6 := by omega
        rcases hj7 with r | r | r | r | r | r | r <;> subst r
        · rw [x0, if_pos (by omega), v0.2]; omega
        · rw [x1, if_pos (by omega), v1.2]; omega
        · rw [x2, if_neg (by omega)]
        · rw [x3, if_neg (by omega)]
        · rw [x4, if_neg (by omega)]
        · rw [x5, if_neg (by omega)]
        · rw [x6, if_neg (by omega)]
      · rw [el] at h
        have h2 : (256 * (256 * (256 * 0 + b (q + ((0 : Nat) : Int))) + b (q + ((1 : Nat) : Int))) + b (q + ((2 : Nat) : Int))) = 26982 := h
        have v0 := z0 (by omega)
        have v1 := z1 (by omega)
        have v2 := z2 (by omega)
        omega
      · rw [el] at h
        have h2 : (256 * (256 * (256 * (256 * 0 + b (q + ((0 : Nat) : Int))) + b (q + ((1 : Nat) : Int))) + b (q + ((2 : Nat) : Int))) + b (q + ((3 : Nat) : Int))) = 26982 := h
        have v0 := z0 (by omega)
        have v1 := z1 (by omega)
        have v2 := z2 (by omega)
        have v3 := z3 (by omega)
        omega
      · rw [el] at h
        have h2 : (256 * (256 * (256 * (256 * (256 * 0 + b (q + ((0 : Nat) : Int))) + b (q + ((1 : Nat) : Int))) + b (q + ((2 : Nat) : Int))) + b (q + ((3 : Nat) : Int))) + b (q + ((4 : Nat) : Int))) = 26982 := h
        have v0 := z0 (by omega)
        have v1 := z1 (by omega)
        have v2 := z2 (by omega)
        have v3 := z3 (by omega)
        have v4 := z4 (by omega)
        omega
      · rw [el] at h
        have h2 : (256 * (256 * (256 * (256 * (256 * (256 * 0 + b (q + ((0 : Nat) : Int))) + b (q + ((1 : Nat) : Int))) + b (q + ((2 : Nat) : Int))) + b (q + ((3 : Nat) : Int))) + b (q + ((4 : Nat) : Int))) + b (q + ((5 : Nat) : Int))) = 26982 := h
        have v0 := z0 (by omega)
        have v1 := z1 (by omega)
        have v2 := z2 (by omega)
        have v3 := z3 (by omega)
        have v4 := z4 (by omega)
        have v5 := z5 (by omega)
        omega
      · rw [el] at h
        have h2 : (256 * (256 * (256 * (256 * (256 * (256 * (256 * 0 + b (q + ((0 : Nat) : Int))) + b (q + ((1 : Nat) : Int))) + b (q + ((2 : Nat) : Int))) + b (q + ((3 : Nat) : Int))) + b (q + ((4 : Nat) : Int))) + b (q + ((5 : Nat) : Int))) + b (q + ((6 : Nat) : Int))) = 26982 := h
        have v0 := z0 (by omega)
        have v1 := z1 (by omega)
        have v2 := z2 (by omega)
        have v3 := z3 (by omega)
        have v4 := z4 (by omega)
        have v5 := z5 (by omega)
        have v6 := z6 (by omega)
        omega
    · rw [if_neg hl] at h; omega
theorem inm_15 {b : Int → Int} {n q : Int} (hT : TPO b n) (q0 : 0 ≤ q) : (le_ b n q - q ≤ 7 ∧ inm b n ((15 : Int) * 7) q (le_ b n q) = true) ↔ tw b n q = 15 := by
  have ha := le_all (b := b) (n := n) (p := q)
  have hb : ∀ j : Nat, q + (j : Int) < le_ b n q → (97 ≤ b (q + (j : Int)) ∧ b (q + (j : Int)) ≤ 122) ∧ tc b n (q + (j : Int)) = b (q + (j : Int)) := by
    intro j hj
    have h1 := of_decide_eq_true (ha.2.1 (q + (j : Int)) (by omega) hj)
    have h2 := tc_val hT (p := q + (j : Int)) (by omega) h1.1
    omega
  rw [inm_iff]
  unfold tw
  have x0 : xch ((15 : Int) * 7 + ((0 : Nat) : Int)) = 110 := by decide
  have x1 : xch ((15 : Int) * 7 + ((1 : Nat) : Int)) = 111 := by decide
  have x2 : xch ((15 : Int) * 7 + ((2 : Nat) : Int)) = 116 := by decide
  have x3 : xch ((15 : Int) * 7 + ((3 : Nat) : Int)) = 32 := by decide
  have x4 : xch ((15 : Int) * 7 + ((4 : Nat) : Int)) = 32 := by decide
  have x5 : xch ((15 : Int) * 7 + ((5 : Nat) : Int)) = 32 := by decide
  have x6 : xch ((15 : Int) * 7 + ((6 : Nat) : Int)) = 32 := by decide
  constructor
  · rintro ⟨h7, h⟩
    have y0 := h 0 (by decide)
    rw [x0] at y0
    have z0 := hb 0
    have y1 := h 1 (by decide)
    rw [x1] at y1
    have z1 := hb 1
    have y2 := h 2 (by decide)
    rw [x2] at y2
    have z2 := hb 2
    have y3 := h 3 (by decide)
    rw [x3] at y3
    have z3 := hb 3
    have y4 := h 4 (by decide)
    rw [x4] at y4
    have z4 := hb 4
    have y5 := h 5 (by decide)
    rw [x5] at y5
    have z5 := hb 5
    have y6 := h 6 (by decide)
    rw [x6] at y6
    have z6 := hb 6
    have l0 : q + ((0 : Nat) : Int) < le_ b n q := Classical.byContradiction fun r => by rw [if_neg r] at y0; omega
    rw [if_pos l0, (z0 l0).2] at y0
    have l1 : q + ((1 : Nat) : Int) < le_ b n q := Classical.byContradiction fun r => by rw [if_neg r] at y1; omega
    rw [if_pos l1, (z1 l1).2] at y1
    have l2 : q + ((2 : Nat) : Int) < le_ b n q := Classical.byContradiction fun r => by rw [if_neg r] at y2; omega
    rw [if_pos l2, (z2 l2).2] at y2
    have l3 : ¬ q + ((3 : Nat) : Int) < le_ b n q := fun r => by rw [if_pos r] at y3; have := z3 r; omega
    have l4 : ¬ q + ((4 : Nat) : Int) < le_ b n q := fun r => by rw [if_pos r] at y4; have := z4 r; omega
    have l5 : ¬ q + ((5 : Nat) : Int) < le_ b n q := fun r => by rw [if_pos r] at y5; have := z5 r; omega
    have l6 : ¬ q + ((6 : Nat) : Int) < le_ b n q := fun r => by rw [if_pos r] at y6; have := z6 r; omega
    have el : (le_ b n q - q).toNat = 3 := by omega
    rw [if_pos (by omega), el, tws_15]
    show (256 * (256 * (256 * 0 + b (q + ((0 : Nat) : Int))) + b (q + ((1 : Nat) : Int))) + b (q + ((2 : Nat) : Int))) = 7237492
    omega
  · intro h
    by_cases hl : 0 < le_ b n q - q ∧ le_ b n q - q < 8
    · rw [if_pos hl, tws_15] at h
      have z0 := hb 0
      have z1 := hb 1
      have z2 := hb 2
      have z3 := hb 3
      have z4 := hb 4
      have z5 := hb 5
      have z6 := hb 6
      have hc : (le_ b n q - q).toNat = 1 ∨ (le_ b n q - q).toNat = 2 ∨ (le_ b n q - q).toNat = 3 ∨ (le_ b n q - q).toNat = 4 ∨ (le_ b n q - q).toNat = 5 ∨ (le_ b n q - q).toNat = 6 ∨ (le_ b n q - q).toNat = 7 := by omega
      rcases hc with el | el | el | el | el | el | el
      · rw [el] at h
        have h2 : (256 * 0 + b (q + ((0 : Nat) : Int))) = 7237492 := h
        have v0 := z0 (by omega)
        omega
      · rw [el] at h
        have h2 : (256 * (256 * 0 + b (q + ((0 : Nat) : Int))) + b (q + ((1 : Nat) : Int))) = 7237492 := h
        have v0 := z0 (by omega)
        have v1 := z1 (by omega)
        omega
      · rw [el] at h
        have h2 : (256 * (256 * (256 * 0 + b (q + ((0 : Nat) : Int))) + b (q + ((1 : Nat) : Int))) + b (q + ((2 : Nat) : Int))) = 7237492 := h
        have v0 := z0 (by omega)
        have v1 := z1 (by omega)
        have v2 := z2 (by omega)
        refine ⟨by omega, fun j hj => ?_⟩
        have hj7 : j = 0 ∨ j = 1 ∨ j = 2 ∨ j = 3 ∨ j = 4 ∨ j = 5 ∨ j = 6 := by omega
        rcases hj7 with r | r | r | r | r | r | r <;> subst r
        · rw [x0, if_pos (by omega), v0.2]; omega
        · rw [x1, if_pos (by omega), v1.2]; omega
        · rw [x2, if_pos (by omega), v2.2]; omega
        · rw [x3, if_neg (by omega)]
        · rw [x4, if_neg (by omega)]
        · rw [x5, if_neg (by omega)]
        · rw [x6, if_neg (by omega)]
      · rw [el] at h
        have h2 : (256 * (256 * (256 * (256 * 0 + b (q + ((0 : Nat) : Int))) + b (q + ((1 : Nat) : Int))) + b (q + ((2 : Nat) : Int))) + b (q + ((3 : Nat) : Int))) = 7237492 := h
        have v0 := z0 (by omega)
        have v1 := z1 (by omega)
        have v2 := z2 (by omega)
        have v3 := z3 (by omega)
        omega
      · rw [el] at h
        have h2 : (256 * (256 * (256 * (256 * (256 * 0 + b (q + ((0 : Nat) : Int))) + b (q + ((1 : Nat) : Int))) + b (q + ((2 : Nat) : Int))) + b (q + ((3 : Nat) : Int))) + b (q + ((4 : Nat) : Int))) = 7237492 := h
        have v0 := z0 (by omega)
        have v1 := z1 (by omega)
        have v2 := z2 (by omega)
        have v3 := z3 (by omega)
        have v4 := z4 (by omega)
        omega
      · rw [el] at h
        have h2 : (256 * (256 * (256 * (256 * (256 * (256 * 0 + b (q + ((0 : Nat) : Int))) + b (q + ((1 : Nat) : Int))) + b (q + ((2 : Nat) : Int))) + b (q + ((3 : Nat) : Int))) + b (q + ((4 : Nat) : Int))) + b (q + ((5 : Nat) : Int))) = 7237492 := h
        have v0 := z0 (by omega)
        have v1 := z1 (by omega)
        have v2 := z2 (by omega)
        have v3 := z3 (by omega)
        have v4 := z4 (by omega)
        have v5 := z5 (by omega)
        omega
      · rw [el] at h
        have h2 : (256 * (256 * (256 * (256 * (256 * (256 * (256 * 0 + b (q + ((0 : Nat) : Int))) + b (q + ((1 : Nat) : Int))) + b (q + ((2 : Nat) : Int))) + b (q + ((3 : Nat) : Int))) + b (q + ((4 : Nat) : Int))) + b (q + ((5 : Nat) : Int))) + b (q + ((6 : Nat) : Int))) = 7237492 := h
        have v0 := z0 (by omega)
        have v1 := z1 (by omega)
        have v2 := z2 (by omega)
        have v3 := z3 (by omega)
        have v4 := z4 (by omega)
        have v5 := z5 (by omega)
        have v6 := z6 (by omega)
        omega
    · rw [if_neg hl] at h; omega
theorem inm_16 {b : Int → Int} {n q : Int} (hT : TPO b n) (q0 : 0 ≤ q) : (le_ b n q - q ≤ 7 ∧ inm b n ((16 : Int) * 7) q (le_ b n q) = true) ↔ tw b n q = 16 := by
  have ha := le_all (b := b) (n := n) (p := q)
  have hb : ∀ j : Nat, q + (j : Int) < le_ b n q → (97 ≤ b (q + (j : Int)) ∧ b (q + (j : Int)) ≤ 122) ∧ tc b n (q + (j : Int)) = b (q + (j : Int)) := by
    intro j hj
    have h1 := of_decide_eq_true (ha.2.1 (q + (j : Int)) (by omega) hj)
    have h2 := tc_val hT (p := q + (j : Int)) (by omega) h1.1
    omega
  rw [inm_iff]
  unfold tw
  have x0 : xch ((16 : Int) * 7 + ((0 : Nat) : Int)) = 97 := by decide
  have x1 : xch ((16 : Int) * 7 + ((1 : Nat) : Int)) = 110 := by decide
  have x2 : xch ((16 : Int) * 7 + ((2 : Nat) : Int)) = 100 := by decide
  have x3 : xch ((16 : Int) * 7 + ((3 : Nat) : Int)) = 32 := by decide
  have x4 : xch ((16 : Int) * 7 + ((4 : Nat) : Int)) = 32 := by decide
  have x5 : xch ((16 : Int) * 7 + ((5 : Nat) : Int)) = 32 := by decide
  have x6 : xch ((16 : Int) * 7 + ((6 : Nat) : Int)) = 32 := by decide
  constructor
  · rintro ⟨h7, h⟩
    have y0 := h 0 (by decide)
    rw [x0] at y0
    have z0 := hb 0
    have y1 := h 1 (by decide)
    rw [x1] at y1
    have z1 := hb 1
    have y2 := h 2 (by decide)
    rw [x2] at y2
    have z2 := hb 2
    have y3 := h 3 (by decide)
    rw [x3] at y3
    have z3 := hb 3
    have y4 := h 4 (by decide)
    rw [x4] at y4
    have z4 := hb 4
    have y5 := h 5 (by decide)
    rw [x5] at y5
    have z5 := hb 5
    have y6 := h 6 (by decide)
    rw [x6] at y6
    have z6 := hb 6
    have l0 : q + ((0 : Nat) : Int) < le_ b n q := Classical.byContradiction fun r => by rw [if_neg r] at y0; omega
    rw [if_pos l0, (z0 l0).2] at y0
    have l1 : q + ((1 : Nat) : Int) < le_ b n q := Classical.byContradiction fun r => by rw [if_neg r] at y1; omega
    rw [if_pos l1, (z1 l1).2] at y1
    have l2 : q + ((2 : Nat) : Int) < le_ b n q := Classical.byContradiction fun r => by rw [if_neg r] at y2; omega
    rw [if_pos l2, (z2 l2).2] at y2
    have l3 : ¬ q + ((3 : Nat) : Int) < le_ b n q := fun r => by rw [if_pos r] at y3; have := z3 r; omega
    have l4 : ¬ q + ((4 : Nat) : Int) < le_ b n q := fun r => by rw [if_pos r] at y4; have := z4 r; omega
    have l5 : ¬ q + ((5 : Nat) : Int) < le_ b n q := fun r => by rw [if_pos r] at y5; have := z5 r; omega
    have l6 : ¬ q + ((6 : Nat) : Int) < le_ b n q := fun r => by rw [if_pos r] at y6; have := z6 r; omega
    have el : (le_ b n q - q).toNat = 3 := by omega
    rw [if_pos (by omega), el, tws_16]
    show (256 * (256 * (256 * 0 + b (q + ((0 : Nat) : Int))) + b (q + ((1 : Nat) : Int))) + b (q + ((2 : Nat) : Int))) = 6385252
    omega
  · intro h
    by_cases hl : 0 < le_ b n q - q ∧ le_ b n q - q < 8
    · rw [if_pos hl, tws_16] at h
      have z0 := hb 0
      have z1 := hb 1
      have z2 := hb 2
      have z3 := hb 3
      have z4 := hb 4
      have z5 := hb 5
      have z6 := hb 6
      have hc : (le_ b n q - q).toNat = 1 ∨ (le_ b n q - q).toNat = 2 ∨ (le_ b n q - q).toNat = 3 ∨ (le_ b n q - q).toNat = 4 ∨ (le_ b n q - q).toNat = 5 ∨ (le_ b n q - q).toNat = 6 ∨ (le_ b n q - q).toNat = 7 := by omega
      rcases hc with el | el | el | el | el | el | el
      · rw [el] at h
        have h2 : (256 * 0 + b (q + ((0 : Nat) : Int))) = 6385252 := h
        have v0 := z0 (by omega)
        omega
      · rw [el] at h
        have h2 : (256 * (256 * 0 + b (q + ((0 : Nat) : Int))) + b (q + ((1 : Nat) : Int))) = 6385252 := h
        have v0 := z0 (by omega)
        have v1 := z1 (by omega)
        omega
      · rw [el] at h
        have h2 : (256 * (256 * (256 * 0 + b (q + ((0 : Nat) : Int))) + b (q + ((1 : Nat) : Int))) + b (q + ((2 : Nat) : Int))) = 6385252 := h
        have v0 := z0 (by omega)
        have v1 := z1 (by omega)
        have v2 := z2 (by omega)
        refine ⟨by omega, fun j hj => ?_⟩
        have hj7 : j = 0 ∨ j = 1 ∨ j = 2 ∨ j = 3 ∨ j = 4 ∨ j = 5 ∨ j = 6 := by omega
        rcases hj7 with r | r | r | r | r | r | r <;> subst r
        · rw [x0, if_pos (by omega), v0.2]; omega
        · rw [x1, if_pos (by omega), v1.2]; omega
        · rw [x2, if_pos (by omega), v2.2]; omega
        · rw [x3, if_neg (by omega)]
        · rw [x4, if_neg (by omega)]
        · rw [x5, if_neg (by omega)]
        · rw [x6, if_neg (by omega)]
      · rw [el] at h
        have h2 : (256 * (256 * (256 * (256 * 0 + b (q + ((0 : Nat) : Int))) + b (q + ((1 : Nat) : Int))) + b (q + ((2 : Nat) : Int))) + b (q + ((3 : Nat) : Int))) = 6385252 := h
        have v0 := z0 (by omega)
        have v1 := z1 (by omega)
        have v2 := z2 (by omega)
        have v3 := z3 (by omega)
        omega
      · rw [el] at h
        have h2 : (256 * (256 * (256 * (256 * (256 * 0 + b (q + ((0 : Nat) : Int))) + b (q + ((1 : Nat) : Int))) + b (q + ((2 : Nat) : Int))) + b (q + ((3 : Nat) : Int))) + b (q + ((4 : Nat) : Int))) = 6385252 := h
        have v0 := z0 (by omega)
        have v1 := z1 (by omega)
        have v2 := z2 (by omega)
        have v3 := z3 (by omega)
        have v4 := z4 (by omega)
        omega
      · rw [el] at h
        have h2 : (256 * (256 * (256 * (256 * (256 * (256 * 0 + b (q + ((0 : Nat) : Int))) + b (q + ((1 : Nat) : Int))) + b (q + ((2 : Nat) : Int))) + b (q + ((3 : Nat) : Int))) + b (q + ((4 : Nat) : Int))) + b (q + ((5 : Nat) : Int))) = 6385252 := h
        have v0 := z0 (by omega)
        have v1 := z1 (by omega)
        have v2 := z2 (by omega)
        have v3 := z3 (by omega)
        have v4 := z4 (by omega)
        have v5 := z5 (by omega)
        omega
      · rw [el] at h
        have h2 : (256 * (256 * (256 * (256 * (256 * (256 * (256 * 0 + b (q + ((0 : Nat) : Int))) + b (q + ((1 : Nat) : Int))) + b (q + ((2 : Nat) : Int))) + b (q + ((3 : Nat) : Int))) + b (q + ((4 : Nat) : Int))) + b (q + ((5 : Nat) : Int))) + b (q + ((6 : Nat) : Int))) = 6385252 := h
        have v0 := z0 (by omega)
        have v1 := z1 (by omega)
        have v2 := z2 (by omega)
        have v3 := z3 (by omega)
        have v4 := z4 (by omega)
        have v5 := z5 (by omega)
        have v6 := z6 (by omega)
        omega
    · rw [if_neg hl] at h; omega
theorem inm_17 {b : Int → Int} {n q : Int} (hT : TPO b n) (q0 : 0 ≤ q) : (le_ b n q - q ≤ 7 ∧ inm b n ((17 : Int) * 7) q (le_ b n q) = true) ↔ tw b n q = 17 := by
  have ha := le_all (b := b) (n := n) (p := q)
  have hb : ∀ j : Nat, q + (j : Int) < le_ b n q → (97 ≤ b (q + (j : Int)) ∧ b (q + (j : Int)) ≤ 122) ∧ tc b n (q + (j : Int)) = b (q + (j : Int)) := by
    intro j hj
    have h1 := of_decide_eq_true (ha.2.1 (q + (j : Int)) (by omega) hj)
    have h2 := tc_val hT (p := q + (j : Int)) (by omega) h1.1
    omega
  rw [inm_iff]
  unfold tw
  have x0 : xch ((17 : Int) * 7 + ((0 : Nat) : Int)) = 111 := by decide
  have x1 : xch ((17 : Int) * 7 + ((1 : Nat) : Int)) = 114 := by decide
  have x2 : xch ((17 : Int) * 7 + ((2 : Nat) : Int)) = 32 := by decide
  have x3 : xch ((17 : Int) * 7 + ((3 : Nat) : Int)) = 32 := by decide
  have x4 : xch ((17 : Int) * 7 + ((4 : Nat) : Int)) = 32 := by decide
  have x5 : xch ((17 : Int) * 7 + ((5 : Nat) : Int)) = 32 := by decide
  have x6 : xch ((17 : Int) * 7 + ((6 : Nat) : Int)) = 32 := by decide
  constructor
  · rintro ⟨h7, h⟩
    have y0 := h 0 (by decide)
    rw [x0] at y0
    have z0 := hb 0
    have y1 := h 1 (by decide)
    rw [x1] at y1
    have z1 := hb 1
    have y2 := h 2 (by decide)
    rw [x2] at y2
    have z2 := hb 2
    have y3 := h 3 (by decide)
    rw [x3] at y3
    have z3 := hb 3
    have y4 := h 4 (by decide)
    rw [x4] at y4
    have z4 := hb 4
    have y5 := h 5 (by decide)
    rw [x5] at y5
    have z5 := hb 5
    have y6 := h 6 (by decide)
    rw [x6] at y6
    have z6 := hb 6
    have l0 : q + ((0 : Nat) : Int) < le_ b n q := Classical.byContradiction fun r => by rw [if_neg r] at y0; omega
    rw [if_pos l0, (z0 l0).2] at y0
    have l1 : q + ((1 : Nat) : Int) < le_ b n q := Classical.byContradiction fun r => by rw [if_neg r] at y1; omega
    rw [if_pos l1, (z1 l1).2] at y1
    have l2 : ¬ q + ((2 : Nat) : Int) < le_ b n q := fun r => by rw [if_pos r] at y2; have := z2 r; omega
    have l3 : ¬ q + ((3 : Nat) : Int) < le_ b n q := fun r => by rw [if_pos r] at y3; have := z3 r; omega
    have l4 : ¬ q + ((4 : Nat) : Int) < le_ b n q := fun r => by rw [if_pos r] at y4; have := z4 r; omega
    have l5 : ¬ q + ((5 : Nat) : Int) < le_ b n q := fun r => by rw [if_pos r] at y5; have := z5 r; omega
    have l6 : ¬ q + ((6 : Nat) : Int) < le_ b n q := fun r => by rw [if_pos r] at y6; have := z6 r; omega
    have el : (le_ b n q - q).toNat = 2 := by omega
    rw [if_pos (by omega), el, tws_17]
    show (256 * (256 * 0 + b (q + ((0 : Nat) : Int))) + b (q + ((1 : Nat) : Int))) = 28530
    omega
  · intro h
    by_cases hl : 0 < le_ b n q - q ∧ le_ b n q - q < 8
    · rw [if_pos hl, tws_17] at h
      have z0 := hb 0
      have z1 := hb 1
      have z2 := hb 2
      have z3 := hb 3
      have z4 := hb 4
      have z5 := hb 5
      have z6 := hb 6
      have hc : (le_ b n q - q).toNat = 1 ∨ (le_ b n q - q).toNat = 2 ∨ (le_ b n q - q).toNat = 3 ∨ (le_ b n q - q).toNat = 4 ∨ (le_ b n q - q).toNat = 5 ∨ (le_ b n q - q).toNat = 6 ∨ (le_ b n q - q).toNat = 7 := by omega
      rcases hc with el | el | el | el | el | el | el
      · rw [el] at h
        have h2 : (256 * 0 + b (q + ((0 : Nat) : Int))) = 28530 := h
        have v0 := z0 (by omega)
        omega
      · rw [el] at h
        have h2 : (256 * (256 * 0 + b (q + ((0 : Nat) : Int))) + b (q + ((1 : Nat) : Int))) = 28530 := h
        have v0 := z0 (by omega)
        have v1 := z1 (by omega)
        refine ⟨by omega, fun j hj => ?_⟩
        have hj7 : j = 0 ∨ j = 1 ∨ j = 2 ∨ j = 3 ∨ j = 4 ∨ j = 5 ∨ j = 6 := by omega
        rcases hj7 with r | r | r | r | r | r | r <;> subst r
        · rw [x0, if_pos (by omega), v0.2]; omega
        · rw [x1, if_pos (by omega), v1.2]; omega
        · rw [x2, if_neg (by omega)]
        · rw [x3, if_neg (by omega)]
        · rw [x4, if_neg (by omega)]
        · rw [x5, if_neg (by omega)]
        · rw [x6, if_neg (by omega)]
      · rw [el] at h
        have h2 : (256 * (256 * (256 * 0 + b (q + ((0 : Nat) : Int))) + b (q + ((1 : Nat) : Int))) + b (q + ((2 : Nat) : Int))) = 28530 := h
        have v0 := z0 (by omega)
        have v1 := z1 (by omega)
        have v2 := z2 (by omega)
        omega
      · rw [el] at h
        have h2 : (256 * (256 * (256 * (256 * 0 + b (q + ((0 : Nat) : Int))) + b (q + ((1 : Nat) : Int))) + b (q + ((2 : Nat) : Int))) + b (q + ((3 : Nat) : Int))) = 28530 := h
        have v0 := z0 (by omega)
        have v1 := z1 (by omega)
        have v2 := z2 (by omega)
        have v3 := z3 (by omega)
        omega
      · rw [el] at h
        have h2 : (256 * (256 * (256 * (256 * (256 * 0 + b (q + ((0 : Nat) : Int))) + b (q + ((1 : Nat) : Int))) + b (q + ((2 : Nat) : Int))) + b (q + ((3 : Nat) : Int))) + b (q + ((4 : Nat) : Int))) = 28530 := h
        have v0 := z0 (by omega)
        have v1 := z1 (by omega)
        have v2 := z2 (by omega)
        have v3 := z3 (by omega)
        have v4 := z4 (by omega)
        omega
      · rw [el] at h
        have h2 : (256 * (256 * (256 * (256 * (256 * (256 * 0 + b (q + ((0 : Nat) : Int))) + b (q + ((1 : Nat) : Int))) + b (q + ((2 : Nat) : Int))) + b (q + ((3 : Nat) : Int))) + b (q + ((4 : Nat) : Int))) + b (q + ((5 : Nat) : Int))) = 28530 := h
        have v0 := z0 (by omega)
        have v1 := z1 (by omega)
        have v2 := z2 (by omega)
        have v3 := z3 (by omega)
        have v4 := z4 (by omega)
        have v5 := z5 (by omega)
        omega
      · rw [el] at h
        have h2 : (256 * (256 * (256 * (256 * (256 * (256 * (256 * 0 + b (q + ((0 : Nat) : Int))) + b (q + ((1 : Nat) : Int))) + b (q + ((2 : Nat) : Int))) + b (q + ((3 : Nat) : Int))) + b (q + ((4 : Nat) : Int))) + b (q + ((5 : Nat) : Int))) + b (q + ((6 : Nat) : Int))) = 28530 := h
        have v0 := z0 (by omega)
        have v1 := z1 (by omega)
        have v2 := z2 (by omega)
        have v3 := z3 (by omega)
        have v4 := z4 (by omega)
        have v5 := z5 (by omega)
        have v6 := z6 (by omega)
        omega
    · rw [if_neg hl] at h; omega
theorem inm_all {b : Int → Int} {n q : Int} (hT : TPO b n) (q0 : 0 ≤ q) (k : Nat) (hk : k < 18) : (le_ b n q - q ≤ 7 ∧ inm b n ((k : Int) * 7) q (le_ b n q) = true) ↔ tw b n q = (k : Int) := by
  have hc : k = 0 ∨ k = 1 ∨ k = 2 ∨ k = 3 ∨ k = 4 ∨ k = 5 ∨ k = 6 ∨ k = 7 ∨ k = 8 ∨ k = 9 ∨ k = 10 ∨ k = 11 ∨ k = 12 ∨ k = 13 ∨ k = 14 ∨ k = 15 ∨ k = 16 ∨ k = 17 := by omega
  rcases hc with r | r | r | r | r | r | r | r | r | r | r | r | r | r | r | r | r | r
  · subst r; exact inm_0 hT q0
  · subst r; exact inm_1 hT q0
  · subst r; exact inm_2 hT q0
  · subst r; exact inm_3 hT q0
  · subst r; exact inm_4 hT q0
  · subst r; exact inm_5 hT q0
  · subst r; exact inm_6 hT q0
  · subst r; exact inm_7 hT q0
  · subst r; exact inm_8 hT q0
  · subst r; exact inm_9 hT q0
  · subst r; exact inm_10 hT q0
  · subst r; exact inm_11 hT q0
  · subst r; exact inm_12 hT q0
  · subst r; exact inm_13 hT q0
  · subst r; exact inm_14 hT q0
  · subst r; exact inm_15 hT q0
  · subst r; exact inm_16 hT q0
  · subst r; exact inm_17 hT q0
