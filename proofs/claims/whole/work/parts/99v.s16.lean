/-! the class reads a rule -/
def fov (b : Int → Int) (n q k : Int) : Int := if vfl b n q k = 0 then -1 else vfl b n q k - 1 - 8 * q
theorem fov_x {b : Int → Int} {n q k v : Int} (h : vfl b n q k = 1 + 8 * q + v) (hv : 0 ≤ v) (q0 : 0 ≤ q) : fov b n q k = v := by
  unfold fov
  rw [if_neg (by omega)]
  omega
theorem tkk_rg {b : Int → Int} {n q : Int} (hT : TPO b n) : -2 ≤ tkk b n q ∧ tkk b n q ≤ 300 := by
  have htr := tc_rg hT q
  have htw := tw_rg b n q
  unfold tkk
  (repeat' split) <;> omega
theorem tkv_rg {b : Int → Int} {n q : Int} : -1 ≤ tkv b n q ∧ tkv b n q ≤ 99999 := by
  have hde := de_all (b := b) (n := n) (p := q)
  have hvr := dvk_rg5 (b := b) (n := n) (q := q) (k := (de_ b n q - q).toNat) (fun j j0 j1 => hde.2.1 j j0 (by omega))
  unfold tkv tnv
  (repeat' split) <;> omega
/-- a sign that is no digit, no letter and no comparison is its own piece -/
theorem tkk_s2 {b : Int → Int} {n q c : Int} (hT : TPO b n) (q0 : 0 ≤ q) (c0 : 0 ≤ c) (c1 : c < 128) (hd : ¬ (48 ≤ c ∧ c ≤ 57)) (hl : ¬ (97 ≤ c ∧ c ≤ 122)) (hc : ¬ (c = 60 ∨ c = 62)) : tkk b n q = c ↔ tc b n q = c := by
  have htr := tc_rg hT q
  have htw := tw_rg b n q
  unfold tkk
  by_cases pn : q < n
  · rw [if_neg (fun r => r pn)]
    have hv := tc_val hT q0 pn
    by_cases d : dgt b n q = true
    · rw [if_pos d]
      have h1 := of_decide_eq_true d
      omega
    · rw [if_neg d]
      by_cases l : ltr b n q = true
      · rw [if_pos l]
        have h1 := of_decide_eq_true l
        by_cases t : tw b n q = -1
        · rw [if_pos t]; omega
        · rw [if_neg t]; omega
      · rw [if_neg l]
        by_cases c9 : (tc b n q = 60 ∨ tc b n q = 62) ∧ tc b n (q + 1) = 61
        · rw [if_pos c9]
          by_cases c8 : tc b n q = 60
          · rw [if_pos c8]; omega
          · rw [if_neg c8]; omega
        · rw [if_neg c9]
  · rw [if_pos pn, tc_end pn]
theorem tke_s2 {b : Int → Int} {n q c : Int} (hT : TPO b n) (q0 : 0 ≤ q) (h : tc b n q = c) (c0 : 0 ≤ c) (c1 : c < 128) (hd : ¬ (48 ≤ c ∧ c ≤ 57)) (hl : ¬ (97 ≤ c ∧ c ≤ 122)) (hc : ¬ (c = 60 ∨ c = 62)) : tke b n q = q + 1 := by
  have pn := tc_lt0 (b := b) (n := n) (q := q) (by omega)
  have hv := tc_val hT q0 pn
  unfold tke
  rw [if_neg (fun r => r pn), if_neg (fun d => by have h1 := of_decide_eq_true d; omega), if_neg (fun d => by have h1 := of_decide_eq_true d; omega), if_neg (by omega)]
theorem nxt_v {b : Int → Int} {n q k : Int} (h : vfl b n q k = 0) (q0 : 0 ≤ q) (qn : q ≤ n) : nxt b n q = sk b n (vnd b n q) := by
  have hv := vnd_in h q0 qn
  unfold nxt
  congr 1
  unfold tke vnd
  rw [if_neg (by omega)]
  by_cases d : dgt b n q = true
  · rw [if_pos d, if_pos d]
  · rw [if_neg d, if_neg d]
    rcases vfl_v h q0 with ⟨r, _⟩ | ⟨_, t0, t1⟩
    · exact absurd r d
    · have ha := le_all (b := b) (n := n) (p := q)
      have hl := tw_lt0 t0 qn
      rw [if_pos (ha.2.1 q (Int.le_refl _) hl.1)]
/-- an order of the class -/
def orc (o : Int) : Int := if o = 14 then 6 else o
def rcn (c : Int) : Int := if c = 37 then 6 else if c = 42 then 4 else if c = 43 then 2 else if c = 45 then 3 else if c = 47 then 5 else -1
def cmn (c : Int) : Int := if c = 60 then 7 else if c = 61 then 9 else if c = 62 then 11 else if c = 258 then 8 else if c = 259 then 10 else -1
theorem rcn_rg (c : Int) : -1 ≤ rcn c ∧ rcn c ≤ 6 := by unfold rcn; (repeat' split) <;> omega
theorem cmn_rg (c : Int) : -1 ≤ cmn c ∧ cmn c ≤ 11 := by unfold cmn; (repeat' split) <;> omega
theorem vfl_0 {b : Int → Int} {n q k : Int} (h : vfl b n q k = 0) (q0 : 0 ≤ q) : vfl b n q 0 = 0 := by
  rcases vfl_v h q0 with ⟨d, t0, t1⟩ | ⟨d, t0, t1⟩
  · unfold vfl; rw [if_pos d, if_neg (by omega), if_neg (by omega)]
  · unfold vfl; rw [if_neg d, if_pos ⟨t0, t1⟩, if_neg (by omega)]
theorem rck {b : Int → Int} {n q : Int} (hT : TPO b n) (q0 : 0 ≤ q) : rcn (tkk b n q) = orc (opc (tc b n q)) := by
  unfold rcn
  have h37 := tkk_s2 hT q0 (c := 37) (by omega) (by omega) (by omega) (by omega) (by omega)
  have h42 := tkk_s2 hT q0 (c := 42) (by omega) (by omega) (by omega) (by omega) (by omega)
  have h43 := tkk_s2 hT q0 (c := 43) (by omega) (by omega) (by omega) (by omega) (by omega)
  have h45 := tkk_s2 hT q0 (c := 45) (by omega) (by omega) (by omega) (by omega) (by omega)
  have h47 := tkk_s2 hT q0 (c := 47) (by omega) (by omega) (by omega) (by omega) (by omega)
  simp only [h37, h42, h43, h45, h47]
  unfold opc orc
  (repeat' split) <;> omega
set_option maxRecDepth 8000 in
theorem sg_51_0 {d : Nat} {I : XI} {L : XL} {D : GD} {post : XQ}  {u1 : Int} (h : (((-2147483648 ≤ u1 ∧ u1 ≤ 2147483647) ∧ (-2147483648 ≤ (-1 : Int) ∧ (-1 : Int) ≤ 2147483647)) ∧ ((u1 = (-1 : Int) → post none I L (gG D)) ∧ (¬ u1 = (-1 : Int) → (((-2147483648 ≤ (I 31 (3 : Int)) ∧ (I 31 (3 : Int)) ≤ 2147483647) ∧ (-2147483648 ≤ (400 : Int) ∧ (400 : Int) ≤ 2147483647)) ∧ (((400 : Int) ≤ (I 31 (3 : Int)) → post none I L (gG D)) ∧ ((I 31 (3 : Int)) < (400 : Int) → ((0 ≤ (I 31 (3 : Int)) ∧ (I 31 (3 : Int)) < (400 : Int)) ∧ post none (xwr (xwr I 32 (I 31 (3 : Int)) u1) 31 (3 : Int) ((I 31 (3 : Int)) + (1 : Int))) L (gG D))))))))) : xR d 51 es_51 0 [xr (some 31), xi u1] [] I L (gG D) 0 0 post := xW_R (fun k => false) 22 _ _ _ _ _ _ _ _ _ _ _ _ h
set_option maxRecDepth 8000 in
theorem w_51 {d : Nat} {I : XI} {L : XL} {D : GD} {post : XQ}   {od : Int} (hd : 0 ≤ d) (h : (((-2147483648 ≤ od ∧ od ≤ 2147483647)) ∧ ((od = (-1 : Int) → post none I L (gG D)) ∧ (¬ od = (-1 : Int) → (((-2147483648 ≤ (I 31 (3 : Int)) ∧ (I 31 (3 : Int)) ≤ 2147483647)) ∧ (((400 : Int) ≤ (I 31 (3 : Int)) → post none I L (gG D)) ∧ ((I 31 (3 : Int)) < (400 : Int) → (((0 ≤ (I 31 (3 : Int)) ∧ (I 31 (3 : Int)) < (400 : Int))) ∧ post none (xsc (xsc I 31 (xup (I 31) (3 : Int) ((I 31 (3 : Int)) + (1 : Int)))) 32 (xup (I 32) (I 31 (3 : Int)) od)) L (gG D))))))))) : xR d 51 es_51 0 [xr (some 31), xi od] [] I L (gG D) 0 0 post := sg_51_0  (⟨⟨h.1, (by decide)⟩, ⟨fun q4939 => (h.2.1 q4939), fun q4940 => ⟨⟨(h.2.2 q4940).1, (by decide)⟩, ⟨fun q4937 => ((h.2.2 q4940).2.1 q4937), fun q4938 => ⟨((h.2.2 q4940).2.2 q4938).1, (xpost ((h.2.2 q4940).2.2 q4938).2 (funext fun i => (xpt rfl (fun h32_ => (xpt rfl (fun h31_ => (by simp only [xsc_ne _ _ h31_, xwr_ne _ _ _ h31_, xsc_ne _ _ h32_, xwr_ne _ _ _ h32_])))))) rfl)⟩⟩⟩⟩⟩)
theorem c_51 {I : XI} {L : XL} {D : GD}   {od : Int} (h : ((-2147483648 ≤ od ∧ od ≤ 2147483647) ∧ (¬ od = -1 → 0 ≤ I 31 (3 : Int) ∧ I 31 (3 : Int) < 400))) : xM 0 51 [xr (some 31), xi od] I L (gG D) (0, 0) (xD none (xsc (xsc I 31 (xup (I 31) (3 : Int) (I 31 (3 : Int) + ((opl od).length : Int)))) 32 (wrl (I 32) (I 31 (3 : Int)) (opl od))) L (gG D)) := by
  intro d hd
  obtain ⟨h1, h2⟩ := h
  refine w_51 (by omega) ?_
  by_cases q : od = -1
  · subst q
    refine ⟨⟨by decide, by decide⟩, fun _ => ?_, fun r => absurd rfl r⟩
    refine xD_eq rfl ?_ rfl
    show I = xsc (xsc I 31 (xup (I 31) 3 (I 31 3 + ((0 : Nat) : Int)))) 32 (I 32)
    rw [show I 31 3 + ((0 : Nat) : Int) = I 31 3 by omega, xup_self, xsc_slf rfl, xsc_slf rfl]
  · have e : opl od = [od] := if_neg q
    have h2 := h2 q
    rw [e]
    exact ⟨h1, fun r => absurd r q, fun _ => ⟨⟨by omega, by omega⟩, fun r => by omega, fun _ => ⟨⟨by omega, by omega⟩, xD_in⟩⟩⟩
set_option maxRecDepth 8000 in
theorem sg_50_0 {d : Nat} {I : XI} {L : XL} {D : GD} {post : XQ}   (h : (((-2147483648 ≤ (I 1 (7 : Int)) ∧ (I 1 (7 : Int)) ≤ 2147483647) ∧ (-2147483648 ≤ (256 : Int) ∧ (256 : Int) ≤ 2147483647)) ∧ ((¬ (I 1 (7 : Int)) = (256 : Int) → post (some (xi (xior (xshl ((I 1 (7 : Int)) - (260 : Int)) (5 : Int)) (1 : Int)))) I L (gG D)) ∧ ((I 1 (7 : Int)) = (256 : Int) → post (some (xi (xior (xshl (I 1 (8 : Int)) (5 : Int)) (0 : Int)))) I L (gG D))))) : xR d 50 es_50 0 [xr (some 31)] [] I L (gG D) 0 0 post := xW_R (fun k => false) 15 _ _ _ _ _ _ _ _ _ _ _ _ h
set_option maxRecDepth 8000 in
theorem w_50 {d : Nat} {I : XI} {L : XL} {D : GD} {post : XQ}    (hd : 0 ≤ d) (h : (((-2147483648 ≤ (I 1 (7 : Int)) ∧ (I 1 (7 : Int)) ≤ 2147483647)) ∧ ((¬ (I 1 (7 : Int)) = (256 : Int) → post (some (xi (xior (xshl ((I 1 (7 : Int)) - (260 : Int)) (5 : Int)) (1 : Int)))) I L (gG D)) ∧ ((I 1 (7 : Int)) = (256 : Int) → post (some (xi (xior (xshl (I 1 (8 : Int)) (5 : Int)) (0 : Int)))) I L (gG D))))) : xR d 50 es_50 0 [xr (some 31)] [] I L (gG D) 0 0 post := sg_50_0  (⟨⟨h.1, (by decide)⟩, ⟨fun q4941 => (h.2.1 q4941), fun q4942 => (h.2.2 q4942)⟩⟩)
theorem c_50 {I : XI} {L : XL} {D : GD}    (h : (TXT (I 1) (I 2) (I 3) (I 4) (I 5) ∧ vfl (I 2) (I 1 (6 : Int)) (I 1 (9 : Int)) 0 = 0)) : xM 0 50 [xr (some 31)] I L (gG D) (0, 0) (xD (some (xi (vcc (I 2) (I 1 (6 : Int)) (I 1 (9 : Int))))) I L (gG D)) := by
  intro d hd
  obtain ⟨hX, hv⟩ := h
  have hT := hX.1
  have hn := (hX.nx).1
  obtain ⟨-, -, -, -, h7, h8⟩ := hX
  have hr := tkk_rg (q := I 1 9) hT
  have h256 := tkk_256 hT (p := I 1 9) (by omega)
  refine w_50 (by omega) ?_
  refine ⟨⟨by omega, by omega⟩, fun n2 => ?_, fun y2 => ?_⟩
  · rcases vfl_v hv hn.1 with ⟨d, t0, t1⟩ | ⟨d, t0, t1⟩
    · exact absurd (h7.trans (h256.mpr d)) n2
    · have hk := (tkk_w hT (p := I 1 9) (i := tw (I 2) (I 1 6) (I 1 9)) (by omega) t0 (by omega)).mpr rfl
      have f := enc32 (c := 1) t0 (by omega) (by omega) (by omega)
      refine xD_eq ?_ rfl rfl
      rw [h7, hk, show 260 + tw (I 2) (I 1 6) (I 1 9) - 260 = tw (I 2) (I 1 6) (I 1 9) by omega, f.2.2]
      unfold vcc
      rw [if_neg d]
  · have d := h256.mp (h7.symm.trans y2)
    rcases vfl_v hv hn.1 with ⟨_, t0, t1⟩ | ⟨d2, t0, t1⟩
    · have f := enc32 (c := 0) t0 t1 (by omega) (by omega)
      have e8 : tkv (I 2) (I 1 6) (I 1 9) = tnv (I 2) (I 1 6) (I 1 9) := if_pos d
      refine xD_eq ?_ rfl rfl
      rw [h8, e8, f.2.2]
      unfold vcc
      rw [if_pos d]
    · exact absurd d d2
set_option maxRecDepth 8000 in
theorem sg_49_0 {d : Nat} {I : XI} {L : XL} {D : GD} {post : XQ}   (h : (((-2147483648 ≤ (I 1 (7 : Int)) ∧ (I 1 (7 : Int)) ≤ 2147483647) ∧ (-2147483648 ≤ (256 : Int) ∧ (256 : Int) ≤ 2147483647)) ∧ ((¬ (I 1 (7 : Int)) = (256 : Int) → ((-2147483648 ≤ (0 : Int) ∧ (0 : Int) ≤ 2147483647) ∧ ((¬ (0 : Int) = 0 → ((-2147483648 ≤ (0 : Int) ∧ (0 : Int) ≤ 2147483647) ∧ (((0 : Int) = 0 → (((-2147483648 ≤ (I 31 (4 : Int)) ∧ (I 31 (4 : Int)) ≤ 2147483647) ∧ (-2147483648 ≤ (60 : Int) ∧ (60 : Int) ≤ 2147483647)) ∧ (((I 31 (4 : Int)) < (60 : Int) → post (some (xi (-1 : Int))) I L (gG D)) ∧ ((60 : Int) ≤ (I 31 (4 : Int)) → post (some (xi (3 : Int))) I L (gG D))))) ∧ (¬ (0 : Int) = 0 → ((-2147483648 ≤ (I 1 (8 : Int)) ∧ (I 1 (8 : Int)) ≤ 2147483647) ∧ ((0 ≤ (I 1 (8 : Int)) → (((-2147483648 ≤ (I 31 (4 : Int)) ∧ (I 31 (4 : Int)) ≤ 2147483647) ∧ (-2147483648 ≤ (60 : Int) ∧ (60 : Int) ≤ 2147483647)) ∧ (((I 31 (4 : Int)) < (60 : Int) → post (some (xi (-1 : Int))) I L (gG D)) ∧ ((60 : Int) ≤ (I 31 (4 : Int)) → post (some (xi (3 : Int))) I L (gG D))))) ∧ ((I 1 (8 : Int)) < 0 → post (some (xi (1 : Int))) I L (gG D)))))))) ∧ ((0 : Int) = 0 → ((-2147483648 ≤ ((I 1 (7 : Int)) - (260 : Int)) ∧ ((I 1 (7 : Int)) - (260 : Int)) ≤ 2147483647) ∧ ((((I 1 (7 : Int)) - (260 : Int)) < 0 → post (some (xi (0 : Int))) I L (gG D)) ∧ (0 ≤ ((I 1 (7 : Int)) - (260 : Int)) → (((-2147483648 ≤ ((I 1 (7 : Int)) - (260 : Int)) ∧ ((I 1 (7 : Int)) - (260 : Int)) ≤ 2147483647) ∧ (-2147483648 ≤ (12 : Int) ∧ (12 : Int) ≤ 2147483647)) ∧ ((((I 1 (7 : Int)) - (260 : Int)) < (12 : Int) → ((-2147483648 ≤ (0 : Int) ∧ (0 : Int) ≤ 2147483647) ∧ (((0 : Int) = 0 → (((-2147483648 ≤ (I 31 (4 : Int)) ∧ (I 31 (4 : Int)) ≤ 2147483647) ∧ (-2147483648 ≤ (60 : Int) ∧ (60 : Int) ≤ 2147483647)) ∧ (((I 31 (4 : Int)) < (60 : Int) → post (some (xi (-1 : Int))) I L (gG D)) ∧ ((60 : Int) ≤ (I 31 (4 : Int)) → post (some (xi (3 : Int))) I L (gG D))))) ∧ (¬ (0 : Int) = 0 → ((-2147483648 ≤ (I 1 (8 : Int)) ∧ (I 1 (8 : Int)) ≤ 2147483647) ∧ ((0 ≤ (I 1 (8 : Int)) → (((-2147483648 ≤ (I 31 (4 : Int)) ∧ (I 31 (4 : Int)) ≤ 2147483647) ∧ (-2147483648 ≤ (60 : Int) ∧ (60 : Int) ≤ 2147483647)) ∧ (((I 31 (4 : Int)) < (60 : Int) → post (some (xi (-1 : Int))) I L (gG D)) ∧ ((60 : Int) ≤ (I 31 (4 : Int)) → post (some (xi (3 : Int))) I L (gG D))))) ∧ ((I 1 (8 : Int)) < 0 → post (some (xi (1 : Int))) I L (gG D)))))))) ∧ ((12 : Int) ≤ ((I 1 (7 : Int)) - (260 : Int)) → post (some (xi (0 : Int))) I L (gG D))))))))))) ∧ ((I 1 (7 : Int)) = (256 : Int) → ((-2147483648 ≤ (1 : Int) ∧ (1 : Int) ≤ 2147483647) ∧ ((¬ (1 : Int) = 0 → ((-2147483648 ≤ (1 : Int) ∧ (1 : Int) ≤ 2147483647) ∧ (((1 : Int) = 0 → (((-2147483648 ≤ (I 31 (4 : Int)) ∧ (I 31 (4 : Int)) ≤ 2147483647) ∧ (-2147483648 ≤ (60 : Int) ∧ (60 : Int) ≤ 2147483647)) ∧ (((I 31 (4 : Int)) < (60 : Int) → post (some (xi (-1 : Int))) I L (gG D)) ∧ ((60 : Int) ≤ (I 31 (4 : Int)) → post (some (xi (3 : Int))) I L (gG D))))) ∧ (¬ (1 : Int) = 0 → ((-2147483648 ≤ (I 1 (8 : Int)) ∧ (I 1 (8 : Int)) ≤ 2147483647) ∧ ((0 ≤ (I 1 (8 : Int)) → (((-2147483648 ≤ (I 31 (4 : Int)) ∧ (I 31 (4 : Int)) ≤ 2147483647) ∧ (-2147483648 ≤ (60 : Int) ∧ (60 : Int) ≤ 2147483647)) ∧ (((I 31 (4 : Int)) < (60 : Int) → post (some (xi (-1 : Int))) I L (gG D)) ∧ ((60 : Int) ≤ (I 31 (4 : Int)) → post (some (xi (3 : Int))) I L (gG D))))) ∧ ((I 1 (8 : Int)) < 0 → post (some (xi (1 : Int))) I L (gG D)))))))) ∧ ((1 : Int) = 0 → ((-2147483648 ≤ ((I 1 (7 : Int)) - (260 : Int)) ∧ ((I 1 (7 : Int)) - (260 : Int)) ≤ 2147483647) ∧ ((((I 1 (7 : Int)) - (260 : Int)) < 0 → post (some (xi (0 : Int))) I L (gG D)) ∧ (0 ≤ ((I 1 (7 : Int)) - (260 : Int)) → (((-2147483648 ≤ ((I 1 (7 : Int)) - (260 : Int)) ∧ ((I 1 (7 : Int)) - (260 : Int)) ≤ 2147483647) ∧ (-2147483648 ≤ (12 : Int) ∧ (12 : Int) ≤ 2147483647)) ∧ ((((I 1 (7 : Int)) - (260 : Int)) < (12 : Int) → ((-2147483648 ≤ (1 : Int) ∧ (1 : Int) ≤ 2147483647) ∧ (((1 : Int) = 0 → (((-2147483648 ≤ (I 31 (4 : Int)) ∧ (I 31 (4 : Int)) ≤ 2147483647) ∧ (-2147483648 ≤ (60 : Int) ∧ (60 : Int) ≤ 2147483647)) ∧ (((I 31 (4 : Int)) < (60 : Int) → post (some (xi (-1 : Int))) I L (gG D)) ∧ ((60 : Int) ≤ (I 31 (4 : Int)) → post (some (xi (3 : Int))) I L (gG D))))) ∧ (¬ (1 : Int) = 0 → ((-2147483648 ≤ (I 1 (8 : Int)) ∧ (I 1 (8 : Int)) ≤ 2147483647) ∧ ((0 ≤ (I 1 (8 : Int)) → (((-2147483648 ≤ (I 31 (4 : Int)) ∧ (I 31 (4 : Int)) ≤ 2147483647) ∧ (-2147483648 ≤ (60 : Int) ∧ (60 : Int) ≤ 2147483647)) ∧ (((I 31 (4 : Int)) < (60 : Int) → post (some (xi (-1 : Int))) I L (gG D)) ∧ ((60 : Int) ≤ (I 31 (4 : Int)) → post (some (xi (3 : Int))) I L (gG D))))) ∧ ((I 1 (8 : Int)) < 0 → post (some (xi (1 : Int))) I L (gG D)))))))) ∧ ((12 : Int) ≤ ((I 1 (7 : Int)) - (260 : Int)) → post (some (xi (0 : Int))) I L (gG D)))))))))))))) : xR d 49 es_49 0 [xr (some 31), xt 0, xt 0] [] I L (gG D) 0 0 post := xW_R (fun k => false) 34 _ _ _ _ _ _ _ _ _ _ _ _ h
set_option maxRecDepth 8000 in
theorem w_49 {d : Nat} {I : XI} {L : XL} {D : GD} {post : XQ}    (hd : 0 ≤ d) (h : (((-2147483648 ≤ (I 1 (7 : Int)) ∧ (I 1 (7 : Int)) ≤ 2147483647)) ∧ ((¬ (I 1 (7 : Int)) = (256 : Int) → (((-2147483648 ≤ ((I 1 (7 : Int)) - (260 : Int)) ∧ ((I 1 (7 : Int)) - (260 : Int)) ≤ 2147483647)) ∧ ((((I 1 (7 : Int)) - (260 : Int)) < 0 → post (some (xi (0 : Int))) I L (gG D)) ∧ (0 ≤ ((I 1 (7 : Int)) - (260 : Int)) → (((((I 1 (7 : Int)) - (260 : Int)) < (12 : Int) → (((-2147483648 ≤ (I 31 (4 : Int)) ∧ (I 31 (4 : Int)) ≤ 2147483647)) ∧ (((I 31 (4 : Int)) < (60 : Int) → post (some (xi (-1 : Int))) I L (gG D)) ∧ ((60 : Int) ≤ (I 31 (4 : Int)) → post (some (xi (3 : Int))) I L (gG D))))) ∧ ((12 : Int) ≤ ((I 1 (7 : Int)) - (260 : Int)) → post (some (xi (0 : Int))) I L (gG D)))))))) ∧ ((I 1 (7 : Int)) = (256 : Int) → (((-2147483648 ≤ (I 1 (8 : Int)) ∧ (I 1 (8 : Int)) ≤ 2147483647)) ∧ ((0 ≤ (I 1 (8 : Int)) → (((-2147483648 ≤ (I 31 (4 : Int)) ∧ (I 31 (4 : Int)) ≤ 2147483647)) ∧ (((I 31 (4 : Int)) < (60 : Int) → post (some (xi (-1 : Int))) I L (gG D)) ∧ ((60 : Int) ≤ (I 31 (4 : Int)) → post (some (xi (3 : Int))) I L (gG D))))) ∧ ((I 1 (8 : Int)) < 0 → post (some (xi (1 : Int))) I L (gG D)))))))) : xR d 49 es_49 0 [xr (some 31), xt 0, xt 0] [] I L (gG D) 0 0 post := sg_49_0  (⟨⟨h.1, (by decide)⟩, ⟨fun q4957 => ⟨(by decide), ⟨fun q4950 => absurd q4950 (by decide), fun _ => ⟨(h.2.1 q4957).1, ⟨fun q4948 => ((h.2.1 q4957).2.1 q4948), fun q4949 => ⟨⟨(h.2.1 q4957).1, (by decide)⟩, ⟨fun q4946 => ⟨(by decide), ⟨fun _ => ⟨⟨(((h.2.1 q4957).2.2 q4949).1 q4946).1, (by decide)⟩, ⟨fun q4943 => ((((h.2.1 q4957).2.2 q4949).1 q4946).2.1 q4943), fun q4944 => ((((h.2.1 q4957).2.2 q4949).1 q4946).2.2 q4944)⟩⟩, fun q4945 => absurd q4945 (by decide)⟩⟩, fun q4947 => (((h.2.1 q4957).2.2 q4949).2 q4947)⟩⟩⟩⟩⟩⟩, fun q4958 => ⟨(by decide), ⟨fun _ => ⟨(by decide), ⟨fun q4955 => absurd q4955 (by decide), fun _ => ⟨(h.2.2 q4958).1, ⟨fun q4953 => ⟨⟨((h.2.2 q4958).2.1 q4953).1, (by decide)⟩, ⟨fun q4951 => (((h.2.2 q4958).2.1 q4953).2.1 q4951), fun q4952 => (((h.2.2 q4958).2.1 q4953).2.2 q4952)⟩⟩, fun q4954 => ((h.2.2 q4958).2.2 q4954)⟩⟩⟩⟩, fun q4956 => absurd q4956 (by decide)⟩⟩⟩⟩)
theorem c_49 {I : XI} {L : XL} {D : GD}    (h : (TXT (I 1) (I 2) (I 3) (I 4) (I 5) ∧ (0 ≤ I 31 (4 : Int) ∧ I 31 (4 : Int) ≤ 60))) : xM 0 49 [xr (some 31)] I L (gG D) (0, 0) (xD (some (xi (fov (I 2) (I 1 (6 : Int)) (I 1 (9 : Int)) (I 31 (4 : Int))))) I L (gG D)) := by
  intro d hd
  obtain ⟨hX, hk⟩ := h
  have hT := hX.1
  have hn := (hX.nx).1
  obtain ⟨-, -, -, -, h7, h8⟩ := hX
  have hr := tkk_rg (q := I 1 9) hT
  have hr2 := tkv_rg (b := I 2) (n := I 1 6) (q := I 1 9)
  have htw := tw_rg (I 2) (I 1 6) (I 1 9)
  have h256 := tkk_256 hT (p := I 1 9) (by omega)
  have hw := fun i i0 i1 => tkk_w hT (p := I 1 9) (i := i) (by omega) i0 i1
  refine w_49 (by omega) ?_
  have e : vfl (I 2) (I 1 6) (I 1 9) (I 31 4) = if dgt (I 2) (I 1 6) (I 1 9) = true then (if tnv (I 2) (I 1 6) (I 1 9) < 0 then 1 + 8 * I 1 9 + 1 else if I 31 4 = 60 then 1 + 8 * I 1 9 + 3 else 0) else if 0 ≤ tw (I 2) (I 1 6) (I 1 9) ∧ tw (I 2) (I 1 6) (I 1 9) < 12 then (if I 31 4 = 60 then 1 + 8 * I 1 9 + 3 else 0) else 1 + 8 * I 1 9 + 0 := rfl
  rw [h7, h8]
  refine ⟨⟨by omega, by omega⟩, fun n2 => ?_, fun y2 => ?_⟩
  · have d : ¬ dgt (I 2) (I 1 6) (I 1 9) = true := fun r => n2 (h256.mpr r)
    rw [if_neg d] at e
    by_cases t : 0 ≤ tw (I 2) (I 1 6) (I 1 9) ∧ tw (I 2) (I 1 6) (I 1 9) < 12
    · have hk2 := (hw (tw (I 2) (I 1 6) (I 1 9)) t.1 (by omega)).mpr rfl
      rw [if_pos t] at e
      refine ⟨⟨by omega, by omega⟩, fun r => by omega, fun _ => ⟨fun _ => ⟨⟨by omega, by omega⟩, fun r => ?_, fun r => ?_⟩, fun r => by omega⟩⟩
      · rw [if_neg (by omega)] at e
        refine xD_eq ?_ rfl rfl
        unfold fov; rw [if_pos e]
      · rw [if_pos (by omega)] at e
        exact xD_eq (by rw [fov_x e (by omega) (by omega)]) rfl rfl
    · rw [if_neg t] at e
      have hz : xD (some (xi (fov (I 2) (I 1 6) (I 1 9) (I 31 4)))) I L (gG D) (some (xi 0)) I L (gG D) := xD_eq (by rw [fov_x e (by omega) (by omega)]) rfl rfl
      refine ⟨⟨by omega, by omega⟩, fun _ => hz, fun r => ⟨fun r2 => ?_, fun _ => hz⟩⟩
      exact absurd ((hw (tkk (I 2) (I 1 6) (I 1 9) - 260) (by omega) (by omega)).mp (by omega)) (by omega)
  · have d := h256.mp y2
    have e8 : tkv (I 2) (I 1 6) (I 1 9) = tnv (I 2) (I 1 6) (I 1 9) := if_pos d
    rw [if_pos d] at e
    refine ⟨⟨by omega, by omega⟩, fun r0 => ⟨⟨by omega, by omega⟩, fun r => ?_, fun r => ?_⟩, fun r0 => ?_⟩
    · rw [if_neg (by omega), if_neg (by omega)] at e
      refine xD_eq ?_ rfl rfl
      unfold fov; rw [if_pos e]
    · rw [if_neg (by omega), if_pos (by omega)] at e
      exact xD_eq (by rw [fov_x e (by omega) (by omega)]) rfl rfl
    · rw [if_pos (by omega)] at e
      exact xD_eq (by rw [fov_x e (by omega) (by omega)]) rfl rfl
set_option maxRecDepth 8000 in
theorem sg_52_0 {d : Nat} {I : XI} {L : XL} {D : GD} {post : XQ}  {u0 : Int} (h : ((-2147483648 ≤ u0 ∧ u0 ≤ 2147483647) ∧ ((u0 = (60 : Int) → post (some (xi (7 : Int))) I L (gG D)) ∧ (¬ u0 = (60 : Int) → ((u0 = (61 : Int) → post (some (xi (9 : Int))) I L (gG D)) ∧ (¬ u0 = (61 : Int) → ((u0 = (62 : Int) → post (some (xi (11 : Int))) I L (gG D)) ∧ (¬ u0 = (62 : Int) → ((u0 = (258 : Int) → post (some (xi (8 : Int))) I L (gG D)) ∧ (¬ u0 = (258 : Int) → ((u0 = (259 : Int) → post (some (xi (10 : Int))) I L (gG D)) ∧ (¬ u0 = (259 : Int) → post (some (xi (-1 : Int))) I L (gG D))))))))))))) : xR d 52 es_52 0 [xi u0] [] I L (gG D) 0 0 post := xW_R (fun k => false) 4 _ _ _ _ _ _ _ _ _ _ _ _ h
set_option maxRecDepth 8000 in
theorem w_52 {d : Nat} {I : XI} {L : XL} {D : GD} {post : XQ}   {pc : Int} (hd : 0 ≤ d) (h : (((-2147483648 ≤ pc ∧ pc ≤ 2147483647)) ∧ (((pc = (60 : Int) → post (some (xi (7 : Int))) I L (gG D)) ∧ (¬ pc = (60 : Int) → (((pc = (61 : Int) → post (some (xi (9 : Int))) I L (gG D)) ∧ (¬ pc = (61 : Int) → (((pc = (62 : Int) → post (some (xi (11 : Int))) I L (gG D)) ∧ (¬ pc = (62 : Int) → (((pc = (258 : Int) → post (some (xi (8 : Int))) I L (gG D)) ∧ (¬ pc = (258 : Int) → (((pc = (259 : Int) → post (some (xi (10 : Int))) I L (gG D)) ∧ (¬ pc = (259 : Int) → post (some (xi (-1 : Int))) I L (gG D)))))))))))))))))) : xR d 52 es_52 0 [xi pc] [] I L (gG D) 0 0 post := sg_52_0  (⟨h.1, ⟨fun q4967 => (h.2.1 q4967), fun q4968 => ⟨fun q4965 => ((h.2.2 q4968).1 q4965), fun q4966 => ⟨fun q4963 => (((h.2.2 q4968).2 q4966).1 q4963), fun q4964 => ⟨fun q4961 => ((((h.2.2 q4968).2 q4966).2 q4964).1 q4961), fun q4962 => ⟨fun q4959 => (((((h.2.2 q4968).2 q4966).2 q4964).2 q4962).1 q4959), fun q4960 => (((((h.2.2 q4968).2 q4966).2 q4964).2 q4962).2 q4960)⟩⟩⟩⟩⟩⟩)
theorem c_52 {I : XI} {L : XL} {D : GD}   {pc : Int} (h : (-2147483648 ≤ pc ∧ pc ≤ 2147483647)) : xM 0 52 [xi pc] I L (gG D) (0, 0) (xD (some (xi (cmn pc))) I L (gG D)) := by
  intro d hd
  refine w_52 (by omega) ?_
  unfold cmn
  repeat' first | (with_reducible intro _) | (with_reducible refine And.intro ?_ ?_)
  all_goals first | omega | skip
  all_goals (refine xD_eq ?_ rfl rfl; (repeat' split) <;> first | rfl | omega)
set_option maxRecDepth 8000 in
theorem sg_53_0 {d : Nat} {I : XI} {L : XL} {D : GD} {post : XQ}  {u0 : Int} (h : ((-2147483648 ≤ u0 ∧ u0 ≤ 2147483647) ∧ ((u0 = (37 : Int) → post (some (xi (6 : Int))) I L (gG D)) ∧ (¬ u0 = (37 : Int) → ((u0 = (38 : Int) → post (some (xi (-1 : Int))) I L (gG D)) ∧ (¬ u0 = (38 : Int) → ((u0 = (39 : Int) → post (some (xi (-1 : Int))) I L (gG D)) ∧ (¬ u0 = (39 : Int) → ((u0 = (40 : Int) → post (some (xi (-1 : Int))) I L (gG D)) ∧ (¬ u0 = (40 : Int) → ((u0 = (41 : Int) → post (some (xi (-1 : Int))) I L (gG D)) ∧ (¬ u0 = (41 : Int) → ((u0 = (42 : Int) → post (some (xi (4 : Int))) I L (gG D)) ∧ (¬ u0 = (42 : Int) → ((u0 = (43 : Int) → post (some (xi (2 : Int))) I L (gG D)) ∧ (¬ u0 = (43 : Int) → ((u0 = (44 : Int) → post (some (xi (-1 : Int))) I L (gG D)) ∧ (¬ u0 = (44 : Int) → ((u0 = (45 : Int) → post (some (xi (3 : Int))) I L (gG D)) ∧ (¬ u0 = (45 : Int) → ((u0 = (46 : Int) → post (some (xi (-1 : Int))) I L (gG D)) ∧ (¬ u0 = (46 : Int) → ((u0 = (47 : Int) → post (some (xi (5 : Int))) I L (gG D)) ∧ (¬ u0 = (47 : Int) → post (some (xi (-1 : Int))) I L (gG D))))))))))))))))))))))))) : xR d 53 es_53 0 [xi u0] [] I L (gG D) 0 0 post := xW_R (fun k => false) 4 _ _ _ _ _ _ _ _ _ _ _ _ h
set_option maxRecDepth 8000 in
theorem w_53 {d : Nat} {I : XI} {L : XL} {D : GD} {post : XQ}   {pc : Int} (hd : 0 ≤ d) (h : (((-2147483648 ≤ pc ∧ pc ≤ 2147483647)) ∧ (((pc = (37 : Int) → post (some (xi (6 : Int))) I L (gG D)) ∧ (¬ pc = (37 : Int) → (((pc = (38 : Int) → post (some (xi (-1 : Int))) I L (gG D)) ∧ (¬ pc = (38 : Int) → (((pc = (39 : Int) → post (some (xi (-1 : Int))) I L (gG D)) ∧ (¬ pc = (39 : Int) → (((pc = (40 : Int) → post (some (xi (-1 : Int))) I L (gG D)) ∧ (¬ pc = (40 : Int) → (((pc = (41 : Int) → post (some (xi (-1 : Int))) I L (gG D)) ∧ (¬ pc = (41 : Int) → (((pc = (42 : Int) → post (some (xi (4 : Int))) I L (gG D)) ∧ (¬ pc = (42 : Int) → (((pc = (43 : Int) → post (some (xi (2 : Int))) I L (gG D)) ∧ (¬ pc = (43 : Int) → (((pc = (44 : Int) → post (some (xi (-1 : Int))) I L (gG D)) ∧ (¬ pc = (44 : Int) → (((pc = (45 : Int) → post (some (xi (3 : Int))) I L (gG D)) ∧ (¬ pc = (45 : Int) → (((pc = (46 : Int) → post (some (xi (-1 : Int))) I L (gG D)) ∧ (¬ pc = (46 : Int) → (((pc = (47 : Int) → post (some (xi (5 : Int))) I L (gG D)) ∧ (¬ pc = (47 : Int) → post (some (xi (-1 : Int))) I L (gG D)))))))))))))))))))))))))))))))))))) : xR d 53 es_53 0 [xi pc] [] I L (gG D) 0 0 post := sg_53_0  (⟨h.1, ⟨fun q4989 => (h.2.1 q4989), fun q4990 => ⟨fun q4987 => ((h.2.2 q4990).1 q4987), fun q4988 => ⟨fun q4985 => (((h.2.2 q4990).2 q4988).1 q4985), fun q4986 => ⟨fun q4983 => ((((h.2.2 q4990).2 q4988).2 q4986).1 q4983), fun q4984 => ⟨fun q4981 => (((((h.2.2 q4990).2 q4988).2 q4986).2 q4984).1 q4981), fun q4982 => ⟨fun q4979 => ((((((h.2.2 q4990).2 q4988).2 q4986).2 q4984).2 q4982).1 q4979), fun q4980 => ⟨fun q4977 => (((((((h.2.2 q4990).2 q4988).2 q4986).2 q4984).2 q4982).2 q4980).1 q4977), fun q4978 => ⟨fun q4975 => ((((((((h.2.2 q4990).2 q4988).2 q4986).2 q4984).2 q4982).2 q4980).2 q4978).1 q4975), fun q4976 => ⟨fun q4973 => (((((((((h.2.2 q4990).2 q4988).2 q4986).2 q4984).2 q4982).2 q4980).2 q4978).2 q4976).1 q4973), fun q4974 => ⟨fun q4971 => ((((((((((h.2.2 q4990).2 q4988).2 q4986).2 q4984).2 q4982).2 q4980).2 q4978).2 q4976).2 q4974).1 q4971), fun q4972 => ⟨fun q4969 => (((((((((((h.2.2 q4990).2 q4988).2 q4986).2 q4984).2 q4982).2 q4980).2 q4978).2 q4976).2 q4974).2 q4972).1 q4969), fun q4970 => (((((((((((h.2.2 q4990).2 q4988).2 q4986).2 q4984).2 q4982).2 q4980).2 q4978).2 q4976).2 q4974).2 q4972).2 q4970)⟩⟩⟩⟩⟩⟩⟩⟩⟩⟩⟩⟩)
theorem c_53 {I : XI} {L : XL} {D : GD}   {pc : Int} (h : (-2147483648 ≤ pc ∧ pc ≤ 2147483647)) : xM 0 53 [xi pc] I L (gG D) (0, 0) (xD (some (xi (rcn pc))) I L (gG D)) := by
  intro d hd
  refine w_53 (by omega) ?_
  unfold rcn
  repeat' first | (with_reducible intro _) | (with_reducible refine And.intro ?_ ?_)
  all_goals first | omega | skip
  all_goals (refine xD_eq ?_ rfl rfl; (repeat' split) <;> first | rfl | omega)
