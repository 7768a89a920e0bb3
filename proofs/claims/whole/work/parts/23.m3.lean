/-! the reference's rules, reckoned out: none where the row of signs is no row that it can be reckoned by -/
def pstp (x : Int) (w : Int → Int64) (st : List Int64) : Option (List Int64) :=
  if xand x 15 = 0 then (if st.length < 60 then some (Int64.ofInt (xshr x 4) :: st) else none)
  else if xand x 15 = 1 then (if st.length < 60 ∧ 0 ≤ xshr x 4 ∧ xshr x 4 < 12 then some (w (xshr x 4) :: st) else none)
  else if xand x 15 = 11 then (match st with
    | a :: r => some ((1 - a) :: r)
    | [] => none)
  else (match st with
    | y :: z :: r => some (pone (xand x 15) z y :: r)
    | _ => none)
def pex (sg : Int → Int) (w : Int → Int64) : Nat → Int → List Int64 → Option (List Int64)
  | 0, _, st => some st
  | n + 1, q, st => (match pstp (sg q) w st with
    | some st2 => pex sg w n (q + 1) st2
    | none => none)
def ptop (o : Option (List Int64)) : Option Int64 := match o with
  | some [v] => some v
  | _ => none
def pe1 (sg : Int → Int) (w : Int → Int64) (B b e : Int) : Option Int64 := if 0 ≤ b ∧ b ≤ e ∧ e ≤ 400 then ptop (pex sg w (e - b).toNat (B + b) []) else none
def prl (sg cl : Int → Int) (w : Int → Int64) (r : Int) : Nat → Int → Option Int64
  | 0, _ => some 0
  | n + 1, c => if cl (48 * r + 4 * c + 2) < 0 then pe1 sg w (400 * r) (cl (48 * r + 4 * c)) (cl (48 * r + 4 * c + 1))
    else (match pe1 sg w (400 * r) (cl (48 * r + 4 * c + 2)) (cl (48 * r + 4 * c + 3)) with
      | none => none
      | some t => if t = 1 then pe1 sg w (400 * r) (cl (48 * r + 4 * c)) (cl (48 * r + 4 * c + 1)) else prl sg cl w r n (c + 1))
def RB (cl : Int → Int) : Prop := ∀ j, xrg (cl j)
/-- a stack in a row of longs -/
def stk (K : Int → Int64) : List Int64 → Prop
  | [] => True
  | v :: r => K (r.length : Int) = v ∧ stk K r
theorem stk_up {K : Int → Int64} : ∀ (r : List Int64) (j : Int) (v : Int64), (r.length : Int) ≤ j → stk K r → stk (xup K j v) r
  | [], _, _, _, _ => trivial
  | u :: r, j, v, h, hs => by
    simp only [List.length_cons] at h
    refine ⟨?_, stk_up r j v (by omega) hs.2⟩
    rw [xup_ne _ _ (by omega)]
    exact hs.1
theorem stk_push {K : Int → Int64} {r : List Int64} {v : Int64} (hs : stk K r) : stk (xup K (r.length : Int) v) (v :: r) := ⟨xup_same _ _ _, stk_up r _ v (Int.le_refl _) hs⟩
theorem stk_push1 {K : Int → Int64} {r : List Int64} {v u : Int64} {j : Int} (hj : j = (r.length : Int)) (hs : stk K (u :: r)) : stk (xup K j v) (v :: r) := by subst hj; exact stk_push hs.2
theorem stk_push2 {K : Int → Int64} {r : List Int64} {v u t : Int64} {j : Int} (hj : j = (r.length : Int)) (hs : stk K (t :: u :: r)) : stk (xup K j v) (v :: r) := by subst hj; exact stk_push hs.2.2
theorem ptop_one {o : Option (List Int64)} {v : Int64} (h : ptop o = some v) : o = some [v] := by
  unfold ptop at h
  split at h
  · cases h; rfl
  · cases h
theorem xw_self {α : Type} (F : Nat → Int → α) (c : Nat) (j : Int) : xwr F c j (F c j) = F := by
  rw [xmem0, xup_self, xm6]
theorem xand15 (x : Int) : 0 ≤ xand x 15 ∧ xand x 15 ≤ 15 := by
  unfold xand
  show 0 ≤ ((Int32.ofInt x).toBitVec &&& BitVec.ofInt 32 15).toInt ∧ ((Int32.ofInt x).toBitVec &&& BitVec.ofInt 32 15).toInt ≤ 15
  generalize (Int32.ofInt x).toBitVec = y
  have h : (y &&& BitVec.ofInt 32 15).toNat ≤ 15 := by
    rw [BitVec.toNat_and]
    exact (Nat.and_le_right : _ ≤ (BitVec.ofInt 32 15).toNat)
  rw [BitVec.toInt_eq_toNat_of_lt (by omega)]
  omega
set_option maxRecDepth 8000 in
theorem sg_191_0 {d : Nat} {I : XI} {L : XL} {D : GD} {post : XQ}  {u1 : Int} {u2 : Int} {u3 : Int} (h : xR d 191 es_191 5 [xr (some 101), xi u1, xi u2, xi u3, xi u2, xt 0, xt 0, xt 0, xt 0, xt 0, xt 0] [] (xwr I 101 (18 : Int) (0 : Int)) L (gG D) 0 0 post) : xR d 191 es_191 0 [xr (some 101), xi u1, xi u2, xi u3, xt 0, xt 0, xt 0, xt 0, xt 0, xt 0, xt 0] [] I L (gG D) 0 0 post := xW_R (fun k => Nat.beq k 5 || Nat.beq k 35 || Nat.beq k 45 || Nat.beq k 53 || Nat.beq k 55 || Nat.beq k 58 || Nat.beq k 61 || Nat.beq k 67 || Nat.beq k 68 || Nat.beq k 72) 5 _ _ _ _ _ _ _ _ _ _ _ _ h
set_option maxRecDepth 8000 in
theorem w_191 {d : Nat} {I : XI} {L : XL} {D : GD} {post : XQ}   {t : Int} {b : Int} {e : Int} (hd : 0 ≤ d) (h : xR d 191 es_191 5 [xr (some 101), xi t, xi b, xi e, xi b, xt 0, xt 0, xt 0, xt 0, xt 0, xt 0] [] (xsc I 101 (xup (I 101) (18 : Int) (0 : Int))) L (gG D) 0 0 post) : xR d 191 es_191 0 [xr (some 101), xi t, xi b, xi e, xt 0, xt 0, xt 0, xt 0, xt 0, xt 0, xt 0] [] I L (gG D) 0 0 post := sg_191_0  (h)
set_option maxRecDepth 8000 in
theorem sg_191_5 {d : Nat} {I : XI} {L : XL} {D : GD} {post : XQ}  {u1 : Int} {u2 : Int} {u3 : Int} {u4 : Int} {u5 : XV} {u6 : XV} {u7 : XV} {u8 : XV} {u9 : XV} {u10 : XV} (h : (((-2147483648 ≤ u4 ∧ u4 ≤ 2147483647) ∧ (-2147483648 ≤ u3 ∧ u3 ≤ 2147483647)) ∧ ((u3 ≤ u4 → xR d 191 es_191 72 [xr (some 101), xi u1, xi u2, xi u3, xi u4, u5, u6, u7, u8, u9, u10] [xr (some 101)] I L (gG D) 0 0 post) ∧ (u4 < u3 → ((0 ≤ (((400 : Int) * u1) + u4) ∧ (((400 : Int) * u1) + u4) < (2400 : Int)) ∧ ((0 ≤ (((400 : Int) * u1) + u4) ∧ (((400 : Int) * u1) + u4) < (2400 : Int)) ∧ ((-2147483648 ≤ (xand (I 103 (((400 : Int) * u1) + u4)) (15 : Int)) ∧ (xand (I 103 (((400 : Int) * u1) + u4)) (15 : Int)) ≤ 2147483647) ∧ ((¬ (xand (I 103 (((400 : Int) * u1) + u4)) (15 : Int)) = 0 → (((-2147483648 ≤ (xand (I 103 (((400 : Int) * u1) + u4)) (15 : Int)) ∧ (xand (I 103 (((400 : Int) * u1) + u4)) (15 : Int)) ≤ 2147483647) ∧ (-2147483648 ≤ (1 : Int) ∧ (1 : Int) ≤ 2147483647)) ∧ ((¬ (xand (I 103 (((400 : Int) * u1) + u4)) (15 : Int)) = (1 : Int) → (((-2147483648 ≤ (xand (I 103 (((400 : Int) * u1) + u4)) (15 : Int)) ∧ (xand (I 103 (((400 : Int) * u1) + u4)) (15 : Int)) ≤ 2147483647) ∧ (-2147483648 ≤ (11 : Int) ∧ (11 : Int) ≤ 2147483647)) ∧ ((¬ (xand (I 103 (((400 : Int) * u1) + u4)) (15 : Int)) = (11 : Int) → xR d 191 es_191 58 [xr (some 101), xi u1, xi u2, xi u3, xi u4, xi (xand (I 103 (((400 : Int) * u1) + u4)) (15 : Int)), xi (xshr (I 103 (((400 : Int) * u1) + u4)) (4 : Int)), u7, u8, u9, u10] [xr (some 101)] I L (gG D) 0 0 post) ∧ ((xand (I 103 (((400 : Int) * u1) + u4)) (15 : Int)) = (11 : Int) → xR d 191 es_191 53 [xr (some 101), xi u1, xi u2, xi u3, xi u4, xi (xand (I 103 (((400 : Int) * u1) + u4)) (15 : Int)), xi (xshr (I 103 (((400 : Int) * u1) + u4)) (4 : Int)), u7, u8, u9, u10] [xr (some 101), xl (1 : Int64), xr (some 101)] I L (gG D) 0 0 post)))) ∧ ((xand (I 103 (((400 : Int) * u1) + u4)) (15 : Int)) = (1 : Int) → ((0 ≤ (xshr (I 103 (((400 : Int) * u1) + u4)) (4 : Int)) ∧ (xshr (I 103 (((400 : Int) * u1) + u4)) (4 : Int)) < (12 : Int)) ∧ xR d 191 es_191 45 [xr (some 101), xi u1, xi u2, xi u3, xi u4, xi (xand (I 103 (((400 : Int) * u1) + u4)) (15 : Int)), xi (xshr (I 103 (((400 : Int) * u1) + u4)) (4 : Int)), u7, u8, u9, u10] [xl (L 110 (xshr (I 103 (((400 : Int) * u1) + u4)) (4 : Int))), xr (some 101)] I L (gG D) 0 0 post))))) ∧ ((xand (I 103 (((400 : Int) * u1) + u4)) (15 : Int)) = 0 → ((-2147483648 ≤ (xshr (I 103 (((400 : Int) * u1) + u4)) (4 : Int)) ∧ (xshr (I 103 (((400 : Int) * u1) + u4)) (4 : Int)) ≤ 2147483647) ∧ xR d 191 es_191 35 [xr (some 101), xi u1, xi u2, xi u3, xi u4, xi (xand (I 103 (((400 : Int) * u1) + u4)) (15 : Int)), xi (xshr (I 103 (((400 : Int) * u1) + u4)) (4 : Int)), u7, u8, u9, u10] [xl (Int64.ofInt (xshr (I 103 (((400 : Int) * u1) + u4)) (4 : Int))), xr (some 101)] I L (gG D) 0 0 post)))))))))) : xR d 191 es_191 5 [xr (some 101), xi u1, xi u2, xi u3, xi u4, u5, u6, u7, u8, u9, u10] [] I L (gG D) 0 0 post := xW_R (fun k => Nat.beq k 5 || Nat.beq k 35 || Nat.beq k 45 || Nat.beq k 53 || Nat.beq k 55 || Nat.beq k 58 || Nat.beq k 61 || Nat.beq k 67 || Nat.beq k 68 || Nat.beq k 72) 36 _ _ _ _ _ _ _ _ _ _ _ _ h
set_option maxRecDepth 8000 in
theorem sg_191_73 {d : Nat} {I : XI} {L : XL} {D : GD} {post : XQ}  {u1 : Int} {u2 : Int} {u3 : Int} {u4 : Int} {u5 : XV} {u6 : XV} {u7 : XV} {u8 : XV} {u9 : XV} {u10 : XV} {w0 : Int64} (h : post (some (xl w0)) I L (gG D)) : xR d 191 es_191 73 [xr (some 101), xi u1, xi u2, xi u3, xi u4, u5, u6, u7, u8, u9, u10] [xl w0] I L (gG D) 0 0 post := xW_R (fun k => Nat.beq k 5 || Nat.beq k 35 || Nat.beq k 45 || Nat.beq k 53 || Nat.beq k 55 || Nat.beq k 58 || Nat.beq k 61 || Nat.beq k 67 || Nat.beq k 68 || Nat.beq k 72) 1 _ _ _ _ _ _ _ _ _ _ _ _ h
set_option maxRecDepth 8000 in
theorem sg_191_59 {d : Nat} {I : XI} {L : XL} {D : GD} {post : XQ}  {u1 : Int} {u2 : Int} {u3 : Int} {u4 : Int} {u5 : Int} {u6 : Int} {u7 : XV} {u8 : XV} {u9 : XV} {u10 : XV} {w0 : Int64} (h : xR d 191 es_191 61 [xr (some 101), xi u1, xi u2, xi u3, xi u4, xi u5, xi u6, xl w0, xt 0, u9, u10] [xr (some 101)] I L (gG D) 0 0 post) : xR d 191 es_191 59 [xr (some 101), xi u1, xi u2, xi u3, xi u4, xi u5, xi u6, u7, u8, u9, u10] [xl w0] I L (gG D) 0 0 post := xW_R (fun k => Nat.beq k 5 || Nat.beq k 35 || Nat.beq k 45 || Nat.beq k 53 || Nat.beq k 55 || Nat.beq k 58 || Nat.beq k 61 || Nat.beq k 67 || Nat.beq k 68 || Nat.beq k 72) 2 _ _ _ _ _ _ _ _ _ _ _ _ h
set_option maxRecDepth 8000 in
theorem sg_191_62 {d : Nat} {I : XI} {L : XL} {D : GD} {post : XQ}  {u1 : Int} {u2 : Int} {u3 : Int} {u4 : Int} {u5 : Int} {u6 : Int} {u7 : Int64} {u9 : XV} {u10 : XV} {w0 : Int64} (h : xR d 191 es_191 67 [xr (some 101), xi u1, xi u2, xi u3, xi u4, xi u5, xi u6, xl u7, xt 0, xl w0, xt 0] [xl u7, xl w0, xi u5, xr (some 101)] I L (gG D) 0 0 post) : xR d 191 es_191 62 [xr (some 101), xi u1, xi u2, xi u3, xi u4, xi u5, xi u6, xl u7, xt 0, u9, u10] [xl w0] I L (gG D) 0 0 post := xW_R (fun k => Nat.beq k 5 || Nat.beq k 35 || Nat.beq k 45 || Nat.beq k 53 || Nat.beq k 55 || Nat.beq k 58 || Nat.beq k 61 || Nat.beq k 67 || Nat.beq k 68 || Nat.beq k 72) 5 _ _ _ _ _ _ _ _ _ _ _ _ h
set_option maxRecDepth 8000 in
theorem sg_191_69 {d : Nat} {I : XI} {L : XL} {D : GD} {post : XQ}  {u1 : Int} {u2 : Int} {u3 : Int} {u4 : Int} {u5 : Int} {u6 : Int} {u7 : Int64} {u9 : Int64} (h : xR d 191 es_191 5 [xr (some 101), xi u1, xi u2, xi u3, xi (u4 + (1 : Int)), xi u5, xi u6, xl u7, xt 0, xl u9, xt 0] [] I L (gG D) 0 0 post) : xR d 191 es_191 69 [xr (some 101), xi u1, xi u2, xi u3, xi u4, xi u5, xi u6, xl u7, xt 0, xl u9, xt 0] [] I L (gG D) 0 0 post := xW_R (fun k => Nat.beq k 5 || Nat.beq k 35 || Nat.beq k 45 || Nat.beq k 53 || Nat.beq k 55 || Nat.beq k 58 || Nat.beq k 61 || Nat.beq k 67 || Nat.beq k 68 || Nat.beq k 72) 2 _ _ _ _ _ _ _ _ _ _ _ _ h
set_option maxRecDepth 8000 in
theorem sg_191_54 {d : Nat} {I : XI} {L : XL} {D : GD} {post : XQ}  {u1 : Int} {u2 : Int} {u3 : Int} {u4 : Int} {u5 : Int} {u6 : Int} {u7 : XV} {u8 : XV} {u9 : XV} {u10 : XV} {w1 : Int64} {w2 : Int64} (h : xR d 191 es_191 55 [xr (some 101), xi u1, xi u2, xi u3, xi u4, xi u5, xi u6, u7, u8, u9, u10] [xl (w1 - w2), xr (some 101)] I L (gG D) 0 0 post) : xR d 191 es_191 54 [xr (some 101), xi u1, xi u2, xi u3, xi u4, xi u5, xi u6, u7, u8, u9, u10] [xl w2, xl w1, xr (some 101)] I L (gG D) 0 0 post := xW_R (fun k => Nat.beq k 5 || Nat.beq k 35 || Nat.beq k 45 || Nat.beq k 53 || Nat.beq k 55 || Nat.beq k 58 || Nat.beq k 61 || Nat.beq k 67 || Nat.beq k 68 || Nat.beq k 72) 1 _ _ _ _ _ _ _ _ _ _ _ _ h
set_option maxRecDepth 8000 in
theorem sg_191_56 {d : Nat} {I : XI} {L : XL} {D : GD} {post : XQ}  {u1 : Int} {u2 : Int} {u3 : Int} {u4 : Int} {u5 : Int} {u6 : Int} {u7 : XV} {u8 : XV} {u9 : XV} {u10 : XV} (h : xR d 191 es_191 5 [xr (some 101), xi u1, xi u2, xi u3, xi (u4 + (1 : Int)), xi u5, xi u6, u7, u8, u9, u10] [] I L (gG D) 0 0 post) : xR d 191 es_191 56 [xr (some 101), xi u1, xi u2, xi u3, xi u4, xi u5, xi u6, u7, u8, u9, u10] [] I L (gG D) 0 0 post := xW_R (fun k => Nat.beq k 5 || Nat.beq k 35 || Nat.beq k 45 || Nat.beq k 53 || Nat.beq k 55 || Nat.beq k 58 || Nat.beq k 61 || Nat.beq k 67 || Nat.beq k 68 || Nat.beq k 72) 3 _ _ _ _ _ _ _ _ _ _ _ _ h
set_option maxRecDepth 8000 in
theorem sg_191_46 {d : Nat} {I : XI} {L : XL} {D : GD} {post : XQ}  {u1 : Int} {u2 : Int} {u3 : Int} {u4 : Int} {u5 : Int} {u6 : Int} {u7 : XV} {u8 : XV} {u9 : XV} {u10 : XV} (h : xR d 191 es_191 5 [xr (some 101), xi u1, xi u2, xi u3, xi (u4 + (1 : Int)), xi u5, xi u6, u7, u8, u9, u10] [] I L (gG D) 0 0 post) : xR d 191 es_191 46 [xr (some 101), xi u1, xi u2, xi u3, xi u4, xi u5, xi u6, u7, u8, u9, u10] [] I L (gG D) 0 0 post := xW_R (fun k => Nat.beq k 5 || Nat.beq k 35 || Nat.beq k 45 || Nat.beq k 53 || Nat.beq k 55 || Nat.beq k 58 || Nat.beq k 61 || Nat.beq k 67 || Nat.beq k 68 || Nat.beq k 72) 3 _ _ _ _ _ _ _ _ _ _ _ _ h
set_option maxRecDepth 8000 in
theorem sg_191_36 {d : Nat} {I : XI} {L : XL} {D : GD} {post : XQ}  {u1 : Int} {u2 : Int} {u3 : Int} {u4 : Int} {u5 : Int} {u6 : Int} {u7 : XV} {u8 : XV} {u9 : XV} {u10 : XV} (h : xR d 191 es_191 5 [xr (some 101), xi u1, xi u2, xi u3, xi (u4 + (1 : Int)), xi u5, xi u6, u7, u8, u9, u10] [] I L (gG D) 0 0 post) : xR d 191 es_191 36 [xr (some 101), xi u1, xi u2, xi u3, xi u4, xi u5, xi u6, u7, u8, u9, u10] [] I L (gG D) 0 0 post := xW_R (fun k => Nat.beq k 5 || Nat.beq k 35 || Nat.beq k 45 || Nat.beq k 53 || Nat.beq k 55 || Nat.beq k 58 || Nat.beq k 61 || Nat.beq k 67 || Nat.beq k 68 || Nat.beq k 72) 3 _ _ _ _ _ _ _ _ _ _ _ _ h
set_option maxRecDepth 8000 in
theorem b_191 {d : Nat} {I : XI} {L : XL} {D : GD} {post : XQ} {tp : Int} {K : Int → Int64}  {t : Int} {b : Int} {e : Int} {i : Int} {x5 : XV} {x6 : XV} {x7 : XV} {x8 : XV} {x9 : XV} {x10 : XV} (hd : 1 ≤ d) (h : (((-2147483648 ≤ i ∧ i ≤ 2147483647) ∧ (-2147483648 ≤ e ∧ e ≤ 2147483647)) ∧ ((e ≤ i → ((0 ≤ tp - 1 ∧ tp - 1 < 64) ∧ post (some (xl (K (tp - 1)))) (xsc I 101 (xup (I 101) (18 : Int) (tp - 1))) (xsc L 109 K) (gG D))) ∧ (i < e → (((0 ≤ (((400 : Int) * t) + i) ∧ (((400 : Int) * t) + i) < (2400 : Int))) ∧ (((¬ (xand (I 103 (((400 : Int) * t) + i)) (15 : Int)) = 0 → (((¬ (xand (I 103 (((400 : Int) * t) + i)) (15 : Int)) = (1 : Int) → (((¬ (xand (I 103 (((400 : Int) * t) + i)) (15 : Int)) = (11 : Int) → ((0 ≤ tp - 1 ∧ tp - 1 < 64) ∧ ((0 ≤ tp - 1 - 1 ∧ tp - 1 - 1 < 64) ∧ ((0 ≤ (xand (I 103 (((400 : Int) * t) + i)) (15 : Int)) ∧ (xand (I 103 (((400 : Int) * t) + i)) (15 : Int)) ≤ 15) ∧ xR d 191 es_191 5 [xr (some 101), xi t, xi b, xi e, xi (i + (1 : Int)), xi (xand (I 103 (((400 : Int) * t) + i)) (15 : Int)), xi (xshr (I 103 (((400 : Int) * t) + i)) (4 : Int)), xl (K (tp - 1)), xt 0, xl (K (tp - 1 - 1)), xt 0] [] (xsc I 101 (xup (I 101) (18 : Int) (tp - 1 - 1 + 1))) (xsc L 109 (xup K (tp - 1 - 1) (pone (xand (I 103 (((400 : Int) * t) + i)) (15 : Int)) (K (tp - 1 - 1)) (K (tp - 1))))) (gG D) 0 0 post)))) ∧ ((xand (I 103 (((400 : Int) * t) + i)) (15 : Int)) = (11 : Int) → ((0 ≤ tp - 1 ∧ tp - 1 < 64) ∧ xR d 191 es_191 5 [xr (some 101), xi t, xi b, xi e, xi (i + (1 : Int)), xi (xand (I 103 (((400 : Int) * t) + i)) (15 : Int)), xi (xshr (I 103 (((400 : Int) * t) + i)) (4 : Int)), x7, x8, x9, x10] [] (xsc I 101 (xup (I 101) (18 : Int) (tp - 1 + 1))) (xsc L 109 (xup K (tp - 1) ((1 : Int64) - (K (tp - 1))))) (gG D) 0 0 post))))) ∧ ((xand (I 103 (((400 : Int) * t) + i)) (15 : Int)) = (1 : Int) → (((0 ≤ (xshr (I 103 (((400 : Int) * t) + i)) (4 : Int)) ∧ (xshr (I 103 (((400 : Int) * t) + i)) (4 : Int)) < (12 : Int))) ∧ ((0 ≤ tp ∧ tp < 64) ∧ xR d 191 es_191 5 [xr (some 101), xi t, xi b, xi e, xi (i + (1 : Int)), xi (xand (I 103 (((400 : Int) * t) + i)) (15 : Int)), xi (xshr (I 103 (((400 : Int) * t) + i)) (4 : Int)), x7, x8, x9, x10] [] (xsc I 101 (xup (I 101) (18 : Int) (tp + 1))) (xsc L 109 (xup K tp (L 110 (xshr (I 103 (((400 : Int) * t) + i)) (4 : Int))))) (gG D) 0 0 post)))))) ∧ ((xand (I 103 (((400 : Int) * t) + i)) (15 : Int)) = 0 → ((0 ≤ tp ∧ tp < 64) ∧ xR d 191 es_191 5 [xr (some 101), xi t, xi b, xi e, xi (i + (1 : Int)), xi (xand (I 103 (((400 : Int) * t) + i)) (15 : Int)), xi (xshr (I 103 (((400 : Int) * t) + i)) (4 : Int)), x7, x8, x9, x10] [] (xsc I 101 (xup (I 101) (18 : Int) (tp + 1))) (xsc L 109 (xup K tp (Int64.ofInt (xshr (I 103 (((400 : Int) * t) + i)) (4 : Int))))) (gG D) 0 0 post))))))))) : xR d 191 es_191 5 [xr (some 101), xi t, xi b, xi e, xi i, x5, x6, x7, x8, x9, x10] [] (xsc I 101 (xup (I 101) (18 : Int) tp)) (xsc L 109 K) (gG D) 0 0 post := sg_191_5  (⟨⟨h.1.1, h.1.2⟩, ⟨fun q77 => (xR_cF rfl rfl rfl (c_189 (h.2.1 q77).1) (by omega) (sg_191_73  (xpost (h.2.1 q77).2 (funext fun i => (xpt (show (xup (xup (I 101) (18 : Int) tp) (18 : Int) (tp - 1)) = (xup (I 101) (18 : Int) (tp - 1)) from by funext j; simp only [xup]; (repeat' split) <;> first | rfl | omega) (fun h101_ => (by simp only [xsc_ne _ _ h101_, xwr_ne _ _ _ h101_])))) rfl))), fun q78 => ⟨(h.2.2 q78).1, ⟨(h.2.2 q78).1, ⟨(xt_rg _), ⟨fun q75 => ⟨⟨(xt_rg _), (by decide)⟩, ⟨fun q73 => ⟨⟨(xt_rg _), (by decide)⟩, ⟨fun q71 => (xR_cF rfl rfl rfl (c_189 ((((h.2.2 q78).2.1 q75).1 q73).1 q71).1) (by omega) (sg_191_59  (xR_cF rfl rfl rfl (c_189 ((((h.2.2 q78).2.1 q75).1 q73).1 q71).2.1) (by omega) (sg_191_62  (xR_cF rfl rfl rfl (c_190 ((((h.2.2 q78).2.1 q75).1 q73).1 q71).2.2.1) (by omega) (xR_cF rfl rfl rfl (c_188 ((((h.2.2 q78).2.1 q75).1 q73).1 q71).2.1) (by omega) (sg_191_69  (xR_memc ((((h.2.2 q78).2.1 q75).1 q73).1 q71).2.2.2 (funext fun i => (xpt (show (xup (xup (xup (xup (I 101) (18 : Int) tp) (18 : Int) (tp - 1)) (18 : Int) (tp - 1 - 1)) (18 : Int) (tp - 1 - 1 + 1)) = (xup (I 101) (18 : Int) (tp - 1 - 1 + 1)) from by funext j; simp only [xup]; (repeat' split) <;> first | rfl | omega) (fun h101_ => (by simp only [xsc_ne _ _ h101_, xwr_ne _ _ _ h101_])))) (funext fun i => (xpt rfl (fun h109_ => (by simp only [xsc_ne _ _ h109_, xwr_ne _ _ _ h109_])))))))))))), fun q72 => (xR_cF rfl rfl rfl (c_189 ((((h.2.2 q78).2.1 q75).1 q73).2 q72).1) (by omega) (sg_191_54  (xR_cF rfl rfl rfl (c_188 ((((h.2.2 q78).2.1 q75).1 q73).2 q72).1) (by omega) (sg_191_56  (xR_memc ((((h.2.2 q78).2.1 q75).1 q73).2 q72).2 (funext fun i => (xpt (show (xup (xup (xup (I 101) (18 : Int) tp) (18 : Int) (tp - 1)) (18 : Int) (tp - 1 + 1)) = (xup (I 101) (18 : Int) (tp - 1 + 1)) from by funext j; simp only [xup]; (repeat' split) <;> first | rfl | omega) (fun h101_ => (by simp only [xsc_ne _ _ h101_, xwr_ne _ _ _ h101_])))) (funext fun i => (xpt rfl (fun h109_ => (by simp only [xsc_ne _ _ h109_, xwr_ne _ _ _ h109_])))))))))⟩⟩, fun q74 => ⟨(((h.2.2 q78).2.1 q75).2 q74).1, (xR_cF rfl rfl rfl (c_188 (((h.2.2 q78).2.1 q75).2 q74).2.1) (by omega) (sg_191_46  (xR_memc (((h.2.2 q78).2.1 q75).2 q74).2.2 (funext fun i => (xpt (show (xup (xup (I 101) (18 : Int) tp) (18 : Int) (tp + 1)) = (xup (I 101) (18 : Int) (tp + 1)) from by funext j; simp only [xup]; (repeat' split) <;> first | rfl | omega) (fun h101_ => (by simp only [xsc_ne _ _ h101_, xwr_ne _ _ _ h101_])))) (funext fun i => (xpt rfl (fun h109_ => (by simp only [xsc_ne _ _ h109_, xwr_ne _ _ _ h109_])))))))⟩⟩⟩, fun q76 => ⟨(xt_rg _), (xR_cF rfl rfl rfl (c_188 ((h.2.2 q78).2.2 q76).1) (by omega) (sg_191_36  (xR_memc ((h.2.2 q78).2.2 q76).2 (funext fun i => (xpt (show (xup (xup (I 101) (18 : Int) tp) (18 : Int) (tp + 1)) = (xup (I 101) (18 : Int) (tp + 1)) from by funext j; simp only [xup]; (repeat' split) <;> first | rfl | omega) (fun h101_ => (by simp only [xsc_ne _ _ h101_, xwr_ne _ _ _ h101_])))) (funext fun i => (xpt rfl (fun h109_ => (by simp only [xsc_ne _ _ h109_, xwr_ne _ _ _ h109_])))))))⟩⟩⟩⟩⟩⟩⟩)
theorem lp_191 {I : XI} {L : XL} {D : GD} {d : Nat} {t b e : Int} {v : Int64} (hd : 1 ≤ d) (ht : 0 ≤ t ∧ t < 6) (he : e ≤ 400) : ∀ (n : Nat) (i : Int) (st : List Int64) (K : Int → Int64) (x5 x6 x7 x8 x9 x10 : XV), i + (n : Int) = e → 0 ≤ i → st.length ≤ 60 → stk K st → pex (I 103) (L 110) n (400 * t + i) st = some [v] → xR d 191 es_191 5 [xr (some 101), xi t, xi b, xi e, xi i, x5, x6, x7, x8, x9, x10] [] (xsc I 101 (xup (I 101) (18 : Int) (st.length : Int))) (xsc L 109 K) (gG D) 0 0 (fun r2 I2 L2 G2 => ∃ (K : Int → Int64), r2 = some (xl v) ∧ I2 = (xsc I 101 (xup (I 101) (18 : Int) 0)) ∧ L2 = (xsc L 109 K) ∧ G2 = gG D) := by
  intro n
  induction n with
  | zero =>
    intro i st K x5 x6 x7 x8 x9 x10 hi h0 hl hs hp
    have hst : st = [v] := by
      unfold pex at hp
      cases hp; rfl
    subst hst
    refine b_191 (by omega) ?_
    refine ⟨by omega, fun _ => ⟨by simp, ?_⟩, fun h => by omega⟩
    exact ⟨K, by rw [← hs.1]; rfl, rfl, rfl, rfl⟩
  | succ n ih =>
    intro i st K x5 x6 x7 x8 x9 x10 hi h0 hl hs hp
    unfold pex at hp
    have ha := xand15 (I 103 (400 * t + i))
    cases hq : pstp (I 103 (400 * t + i)) (L 110) st with
    | none => rw [hq] at hp; cases hp
    | some st2 =>
      rw [hq] at hp
      rw [show 400 * t + i + 1 = 400 * t + (i + 1) by omega] at hp
      unfold pstp at hq
      have ih2 := fun K2 x5 x6 x7 x8 x9 x10 h1 h2 => ih (i + 1) st2 K2 x5 x6 x7 x8 x9 x10 (by omega) (by omega) h1 h2 hp
      by_cases c0 : xand (I 103 (400 * t + i)) 15 = 0
      · rw [if_pos c0] at hq
        split at hq
        · cases hq
          refine b_191 (by omega) ?_
          repeat' first | (with_reducible intro _) | (with_reducible refine And.intro ?_ ?_)
          all_goals first | omega | exact (xt_rg _) | skip
          exact ih2 _ _ _ _ _ _ _ (by simp only [List.length_cons]; omega) (stk_push hs)
        · cases hq
      · rw [if_neg c0] at hq
        by_cases c1 : xand (I 103 (400 * t + i)) 15 = 1
        · rw [if_pos c1] at hq
          split at hq
          · rename_i hc
            cases hq
            refine b_191 (by omega) ?_
            repeat' first | (with_reducible intro _) | (with_reducible refine And.intro ?_ ?_)
            all_goals first | omega | exact (xt_rg _) | skip
            exact ih2 _ _ _ _ _ _ _ (by simp only [List.length_cons]; omega) (stk_push hs)
          · cases hq
        · rw [if_neg c1] at hq
          by_cases c2 : xand (I 103 (400 * t + i)) 15 = 11
          · rw [if_pos c2] at hq
            match st, hs, hl, hq with
            | a :: r, hs, hl, hq =>
              cases hq
              simp only [List.length_cons] at hl
              refine b_191 (by omega) ?_
              simp only [List.length_cons]
              repeat' first | (with_reducible intro _) | (with_reducible refine And.intro ?_ ?_)
              all_goals first | omega | exact (xt_rg _) | skip
              refine xR_mem ?_ ?_ (ih2 _ _ _ _ _ _ _ (by simp only [List.length_cons]; omega) (stk_push1 (j := ((r.length + 1 : Nat) : Int) - 1) (by omega) hs))
              · simp only [List.length_cons]; congr 2; omega
              · rw [show K ((r.length + 1 : Nat) - 1) = a by rw [show (((r.length + 1 : Nat) : Int) - 1) = (r.length : Int) by omega]; exact hs.1]
          · rw [if_neg c2] at hq
            match st, hs, hl, hq with
            | y :: z :: r, hs, hl, hq =>
              cases hq
              simp only [List.length_cons] at hl
              refine b_191 (by omega) ?_
              simp only [List.length_cons]
              repeat' first | (with_reducible intro _) | (with_reducible refine And.intro ?_ ?_)
              all_goals first | omega | exact (xt_rg _) | skip
              refine xR_mem ?_ ?_ (ih2 _ _ _ _ _ _ _ (by simp only [List.length_cons]; omega) (stk_push2 (j := ((r.length + 1 + 1 : Nat) : Int) - 1 - 1) (by omega) hs))
              · simp only [List.length_cons]; congr 2; omega
              · have e1 : K ((r.length + 1 + 1 : Nat) - 1) = y := by rw [show (((r.length + 1 + 1 : Nat) : Int) - 1) = ((r.length + 1 : Nat) : Int) by omega]; exact hs.1
                have e2 : K ((r.length + 1 + 1 : Nat) - 1 - 1) = z := by rw [show (((r.length + 1 + 1 : Nat) : Int) - 1 - 1) = (r.length : Int) by omega]; exact hs.2.1
                rw [e1, e2]
theorem c_191 {I : XI} {L : XL} {D : GD}   {t : Int} {b : Int} {e : Int} (h : ((0 ≤ t ∧ t < 6) ∧ (pe1 (I 103) (L 110) (400 * t) b e).isSome = true)) : xM 1 191 [xr (some 101), xi t, xi b, xi e] I L (gG D) (0, 0) (fun r2 I2 L2 G2 => ∃ (K : Int → Int64), r2 = (some (xl ((pe1 (I 103) (L 110) (400 * t) b e).getD 0))) ∧ I2 = (xsc I 101 (xup (I 101) (18 : Int) 0)) ∧ L2 = (xsc L 109 K) ∧ G2 = (gG D)) := by
  intro d hd
  obtain ⟨ht, hp⟩ := h
  obtain ⟨v, hv⟩ := Option.isSome_iff_exists.mp hp
  rw [hv]
  unfold pe1 at hv
  split at hv
  case isFalse => cases hv
  rename_i hc
  refine w_191 (by omega) ?_
  have := lp_191 (I := I) (L := L) (D := D) (d := d) (b := b) (e := e) (by omega) ht hc.2.2 (e - b).toNat b [] (L 109) (xt 0) (xt 0) (xt 0) (xt 0) (xt 0) (xt 0) (by omega) hc.1 (Nat.zero_le _) trivial (ptop_one hv)
  rw [xm6] at this
  exact this
set_option maxRecDepth 8000 in
theorem sg_206_0 {d : Nat} {I : XI} {L : XL} {D : GD} {post : XQ}  {u1 : Int} (h : xR d 206 es_206 2 [xr (some 101), xi u1, xi (0 : Int), xt 0] [] I L (gG D) 0 0 post) : xR d 206 es_206 0 [xr (some 101), xi u1, xt 0, xt 0] [] I L (gG D) 0 0 post := xW_R (fun k => Nat.beq k 2 || Nat.beq k 37 || Nat.beq k 53) 2 _ _ _ _ _ _ _ _ _ _ _ _ h
set_option maxRecDepth 8000 in
theorem w_206 {d : Nat} {I : XI} {L : XL} {D : GD} {post : XQ}   {r : Int} (hd : 0 ≤ d) (h : xR d 206 es_206 2 [xr (some 101), xi r, xi (0 : Int), xt 0] [] I L (gG D) 0 0 post) : xR d 206 es_206 0 [xr (some 101), xi r, xt 0, xt 0] [] I L (gG D) 0 0 post := sg_206_0  (h)
set_option maxRecDepth 8000 in
theorem sg_206_2 {d : Nat} {I : XI} {L : XL} {D : GD} {post : XQ}  {u1 : Int} {u2 : Int} {u3 : XV} (h : ((0 ≤ u1 ∧ u1 < (6 : Int)) ∧ (((-2147483648 ≤ u2 ∧ u2 ≤ 2147483647) ∧ (-2147483648 ≤ (I 106 u1) ∧ (I 106 u1) ≤ 2147483647)) ∧ (((I 106 u1) ≤ u2 → post (some (xl (0 : Int64))) I L (gG D)) ∧ (u2 < (I 106 u1) → ((0 ≤ ((((48 : Int) * u1) + ((4 : Int) * u2)) + (2 : Int)) ∧ ((((48 : Int) * u1) + ((4 : Int) * u2)) + (2 : Int)) < (288 : Int)) ∧ ((-2147483648 ≤ (I 105 ((((48 : Int) * u1) + ((4 : Int) * u2)) + (2 : Int))) ∧ (I 105 ((((48 : Int) * u1) + ((4 : Int) * u2)) + (2 : Int))) ≤ 2147483647) ∧ (((I 105 ((((48 : Int) * u1) + ((4 : Int) * u2)) + (2 : Int))) < 0 → ((0 ≤ (((48 : Int) * u1) + ((4 : Int) * u2)) ∧ (((48 : Int) * u1) + ((4 : Int) * u2)) < (288 : Int)) ∧ ((0 ≤ ((((48 : Int) * u1) + ((4 : Int) * u2)) + (1 : Int)) ∧ ((((48 : Int) * u1) + ((4 : Int) * u2)) + (1 : Int)) < (288 : Int)) ∧ xR d 206 es_206 53 [xr (some 101), xi u1, xi u2, xi (((48 : Int) * u1) + ((4 : Int) * u2))] [xi (I 105 ((((48 : Int) * u1) + ((4 : Int) * u2)) + (1 : Int))), xi (I 105 (((48 : Int) * u1) + ((4 : Int) * u2))), xi u1, xr (some 101)] I L (gG D) 0 0 post))) ∧ (0 ≤ (I 105 ((((48 : Int) * u1) + ((4 : Int) * u2)) + (2 : Int))) → ((0 ≤ ((((48 : Int) * u1) + ((4 : Int) * u2)) + (2 : Int)) ∧ ((((48 : Int) * u1) + ((4 : Int) * u2)) + (2 : Int)) < (288 : Int)) ∧ ((0 ≤ ((((48 : Int) * u1) + ((4 : Int) * u2)) + (3 : Int)) ∧ ((((48 : Int) * u1) + ((4 : Int) * u2)) + (3 : Int)) < (288 : Int)) ∧ xR d 206 es_206 37 [xr (some 101), xi u1, xi u2, xi (((48 : Int) * u1) + ((4 : Int) * u2))] [xi (I 105 ((((48 : Int) * u1) + ((4 : Int) * u2)) + (3 : Int))), xi (I 105 ((((48 : Int) * u1) + ((4 : Int) * u2)) + (2 : Int))), xi u1, xr (some 101)] I L (gG D) 0 0 post))))))))))) : xR d 206 es_206 2 [xr (some 101), xi u1, xi u2, u3] [] I L (gG D) 0 0 post := xW_R (fun k => Nat.beq k 2 || Nat.beq k 37 || Nat.beq k 53) 35 _ _ _ _ _ _ _ _ _ _ _ _ h
set_option maxRecDepth 8000 in
theorem sg_206_54 {d : Nat} {I : XI} {L : XL} {D : GD} {post : XQ}  {u1 : Int} {u2 : Int} {u3 : Int} {w0 : Int64} (h : post (some (xl w0)) I L (gG D)) : xR d 206 es_206 54 [xr (some 101), xi u1, xi u2, xi u3] [xl w0] I L (gG D) 0 0 post := xW_R (fun k => Nat.beq k 2 || Nat.beq k 37 || Nat.beq k 53) 1 _ _ _ _ _ _ _ _ _ _ _ _ h
set_option maxRecDepth 8000 in
theorem sg_206_38 {d : Nat} {I : XI} {L : XL} {D : GD} {post : XQ}  {u1 : Int} {u2 : Int} {u3 : Int} {w0 : Int64} (h : ((-2147483648 ≤ (xlcm w0 (1 : Int64)) ∧ (xlcm w0 (1 : Int64)) ≤ 2147483647) ∧ ((¬ (xlcm w0 (1 : Int64)) = 0 → xR d 206 es_206 2 [xr (some 101), xi u1, xi (u2 + (1 : Int)), xi u3] [] I L (gG D) 0 0 post) ∧ ((xlcm w0 (1 : Int64)) = 0 → ((0 ≤ u3 ∧ u3 < (288 : Int)) ∧ ((0 ≤ (u3 + (1 : Int)) ∧ (u3 + (1 : Int)) < (288 : Int)) ∧ xR d 206 es_206 53 [xr (some 101), xi u1, xi u2, xi u3] [xi (I 105 (u3 + (1 : Int))), xi (I 105 u3), xi u1, xr (some 101)] I L (gG D) 0 0 post)))))) : xR d 206 es_206 38 [xr (some 101), xi u1, xi u2, xi u3] [xl w0] I L (gG D) 0 0 post := xW_R (fun k => Nat.beq k 2 || Nat.beq k 37 || Nat.beq k 53) 15 _ _ _ _ _ _ _ _ _ _ _ _ h
set_option maxRecDepth 8000 in
theorem b_206 {d : Nat} {I : XI} {L : XL} {D : GD} {post : XQ} {tp : Int} {K : Int → Int64}  {r : Int} {c : Int} {x3 : XV} (hd : 2 ≤ d) (h : (((0 ≤ r ∧ r < (6 : Int))) ∧ (((-2147483648 ≤ c ∧ c ≤ 2147483647) ∧ (-2147483648 ≤ (I 106 r) ∧ (I 106 r) ≤ 2147483647)) ∧ (((I 106 r) ≤ c → post (some (xl (0 : Int64))) (xsc I 101 (xup (I 101) (18 : Int) tp)) (xsc L 109 K) (gG D)) ∧ (c < (I 106 r) → (((0 ≤ ((((48 : Int) * r) + ((4 : Int) * c)) + (2 : Int)) ∧ ((((48 : Int) * r) + ((4 : Int) * c)) + (2 : Int)) < (288 : Int))) ∧ (((-2147483648 ≤ (I 105 ((((48 : Int) * r) + ((4 : Int) * c)) + (2 : Int))) ∧ (I 105 ((((48 : Int) * r) + ((4 : Int) * c)) + (2 : Int))) ≤ 2147483647)) ∧ (((I 105 ((((48 : Int) * r) + ((4 : Int) * c)) + (2 : Int))) < 0 → (((0 ≤ (((48 : Int) * r) + ((4 : Int) * c)) ∧ (((48 : Int) * r) + ((4 : Int) * c)) < (288 : Int))) ∧ (((0 ≤ ((((48 : Int) * r) + ((4 : Int) * c)) + (1 : Int)) ∧ ((((48 : Int) * r) + ((4 : Int) * c)) + (1 : Int)) < (288 : Int))) ∧ (((0 ≤ r ∧ r < 6) ∧ (pe1 (I 103) (L 110) (400 * r) (I 105 (((48 : Int) * r) + ((4 : Int) * c))) (I 105 ((((48 : Int) * r) + ((4 : Int) * c)) + (1 : Int)))).isSome = true) ∧ (∀ (e79 : Int → Int64), post (some (xl ((pe1 (I 103) (L 110) (400 * r) (I 105 (((48 : Int) * r) + ((4 : Int) * c))) (I 105 ((((48 : Int) * r) + ((4 : Int) * c)) + (1 : Int)))).getD 0))) (xsc I 101 (xup (I 101) (18 : Int) 0)) (xsc L 109 e79) (gG D)))))) ∧ (0 ≤ (I 105 ((((48 : Int) * r) + ((4 : Int) * c)) + (2 : Int))) → (((0 ≤ ((((48 : Int) * r) + ((4 : Int) * c)) + (3 : Int)) ∧ ((((48 : Int) * r) + ((4 : Int) * c)) + (3 : Int)) < (288 : Int))) ∧ (((0 ≤ r ∧ r < 6) ∧ (pe1 (I 103) (L 110) (400 * r) (I 105 ((((48 : Int) * r) + ((4 : Int) * c)) + (2 : Int))) (I 105 ((((48 : Int) * r) + ((4 : Int) * c)) + (3 : Int)))).isSome = true) ∧ (∀ (e80 : Int → Int64), (((¬ (xlcm ((pe1 (I 103) (L 110) (400 * r) (I 105 ((((48 : Int) * r) + ((4 : Int) * c)) + (2 : Int))) (I 105 ((((48 : Int) * r) + ((4 : Int) * c)) + (3 : Int)))).getD 0) (1 : Int64)) = 0 → xR d 206 es_206 2 [xr (some 101), xi r, xi (c + (1 : Int)), xi (((48 : Int) * r) + ((4 : Int) * c))] [] (xsc I 101 (xup (I 101) (18 : Int) 0)) (xsc L 109 e80) (gG D) 0 0 post) ∧ ((xlcm ((pe1 (I 103) (L 110) (400 * r) (I 105 ((((48 : Int) * r) + ((4 : Int) * c)) + (2 : Int))) (I 105 ((((48 : Int) * r) + ((4 : Int) * c)) + (3 : Int)))).getD 0) (1 : Int64)) = 0 → (((0 ≤ (((48 : Int) * r) + ((4 : Int) * c)) ∧ (((48 : Int) * r) + ((4 : Int) * c)) < (288 : Int))) ∧ (((0 ≤ ((((48 : Int) * r) + ((4 : Int) * c)) + (1 : Int)) ∧ ((((48 : Int) * r) + ((4 : Int) * c)) + (1 : Int)) < (288 : Int))) ∧ (((0 ≤ r ∧ r < 6) ∧ (pe1 (I 103) (L 110) (400 * r) (I 105 (((48 : Int) * r) + ((4 : Int) * c))) (I 105 ((((48 : Int) * r) + ((4 : Int) * c)) + (1 : Int)))).isSome = true) ∧ (∀ (e81 : Int → Int64), post (some (xl ((pe1 (I 103) (L 110) (400 * r) (I 105 (((48 : Int) * r) + ((4 : Int) * c))) (I 105 ((((48 : Int) * r) + ((4 : Int) * c)) + (1 : Int)))).getD 0))) (xsc I 101 (xup (I 101) (18 : Int) 0)) (xsc L 109 e81) (gG D)))))))))))))))))))) : xR d 206 es_206 2 [xr (some 101), xi r, xi c, x3] [] (xsc I 101 (xup (I 101) (18 : Int) tp)) (xsc L 109 K) (gG D) 0 0 post := sg_206_2  (⟨h.1, ⟨⟨h.2.1.1, h.2.1.2⟩, ⟨fun q86 => (h.2.2.1 q86), fun q87 => ⟨(h.2.2.2 q87).1, ⟨(h.2.2.2 q87).2.1, ⟨fun q84 => ⟨((h.2.2.2 q87).2.2.1 q84).1, ⟨((h.2.2.2 q87).2.2.1 q84).2.1, (xR_cQ rfl rfl rfl (c_191 ((h.2.2.2 q87).2.2.1 q84).2.2.1) (by omega) (fun _ _ _ _ hx88 => by obtain ⟨e79, rfl, rfl, rfl, rfl⟩ := hx88; exact (sg_206_54  (xpost (((h.2.2.2 q87).2.2.1 q84).2.2.2 e79) (funext fun i => (xpt (show (xup (xup (I 101) (18 : Int) tp) (18 : Int) 0) = (xup (I 101) (18 : Int) 0) from by funext j; simp only [xup]; (repeat' split) <;> first | rfl | omega) (fun h101_ => (by simp only [xsc_ne _ _ h101_, xwr_ne _ _ _ h101_])))) (funext fun i => (xpt rfl (fun h109_ => (by simp only [xsc_ne _ _ h109_, xwr_ne _ _ _ h109_]))))))))⟩⟩, fun q85 => ⟨(h.2.2.2 q87).1, ⟨((h.2.2.2 q87).2.2.2 q85).1, (xR_cQ rfl rfl rfl (c_191 ((h.2.2.2 q87).2.2.2 q85).2.1) (by omega) (fun _ _ _ _ hx90 => by obtain ⟨e80, rfl, rfl, rfl, rfl⟩ := hx90; exact (sg_206_38  ⟨(xlcm_rg _ _), ⟨fun q82 => (xR_memc ((((h.2.2.2 q87).2.2.2 q85).2.2 e80).1 q82) (funext fun i => (xpt (show (xup (xup (I 101) (18 : Int) tp) (18 : Int) 0) = (xup (I 101) (18 : Int) 0) from by funext j; simp only [xup]; (repeat' split) <;> first | rfl | omega) (fun h101_ => (by simp only [xsc_ne _ _ h101_, xwr_ne _ _ _ h101_])))) (funext fun i => (xpt rfl (fun h109_ => (by simp only [xsc_ne _ _ h109_, xwr_ne _ _ _ h109_]))))), fun q83 => ⟨((((h.2.2.2 q87).2.2.2 q85).2.2 e80).2 q83).1, ⟨((((h.2.2.2 q87).2.2.2 q85).2.2 e80).2 q83).2.1, (xR_cQ rfl rfl rfl (c_191 ((((h.2.2.2 q87).2.2.2 q85).2.2 e80).2 q83).2.2.1) (by omega) (fun _ _ _ _ hx92 => by obtain ⟨e81, rfl, rfl, rfl, rfl⟩ := hx92; exact (sg_206_54  (xpost (((((h.2.2.2 q87).2.2.2 q85).2.2 e80).2 q83).2.2.2 e81) (funext fun i => (xpt (show (xup (xup (xup (I 101) (18 : Int) tp) (18 : Int) 0) (18 : Int) 0) = (xup (I 101) (18 : Int) 0) from by funext j; simp only [xup]; (repeat' split) <;> first | rfl | omega) (fun h101_ => (by simp only [xsc_ne _ _ h101_, xwr_ne _ _ _ h101_])))) (funext fun i => (xpt rfl (fun h109_ => (by simp only [xsc_ne _ _ h109_, xwr_ne _ _ _ h109_]))))))))⟩⟩⟩⟩)))⟩⟩⟩⟩⟩⟩⟩⟩)
theorem lp_206 {I : XI} {L : XL} {D : GD} {d : Nat} {r : Int} {v : Int64} (hd : 2 ≤ d) (hr : 0 ≤ r ∧ r < 6) (hn : 0 ≤ I 106 r ∧ I 106 r ≤ 12) (hcl : RB (I 105)) : ∀ (n : Nat) (c tp : Int) (K : Int → Int64) (x3 : XV), c + (n : Int) = I 106 r → 0 ≤ c → prl (I 103) (I 105) (L 110) r n c = some v → xR d 206 es_206 2 [xr (some 101), xi r, xi c, x3] [] (xsc I 101 (xup (I 101) (18 : Int) tp)) (xsc L 109 K) (gG D) 0 0 (fun r2 I2 L2 G2 => ∃ (tp : Int) (K : Int → Int64), r2 = some (xl v) ∧ I2 = (xsc I 101 (xup (I 101) (18 : Int) tp)) ∧ L2 = (xsc L 109 K) ∧ G2 = gG D) := by
  intro n
  induction n with
  | zero =>
    intro c tp K x3 hi h0 hp
    unfold prl at hp
    cases hp
    refine b_206 (by omega) ?_
    repeat' first | (with_reducible intro _) | (with_reducible refine And.intro ?_ ?_)
    all_goals first | omega | skip
    exact ⟨tp, K, rfl, rfl, rfl, rfl⟩
  | succ n ih =>
    intro c tp K x3 hi h0 hp
    have h1 := hcl (48 * r + 4 * c + 2)
    have h2 := hcl (48 * r + 4 * c + 3)
    have h3 := hcl (48 * r + 4 * c)
    have h4 := hcl (48 * r + 4 * c + 1)
    unfold prl at hp
    refine b_206 (by omega) ?_
    by_cases c0 : I 105 (48 * r + 4 * c + 2) < 0
    · rw [if_pos c0] at hp
      repeat' first | (with_reducible intro _) | (with_reducible refine And.intro ?_ ?_)
      all_goals first | omega | (rw [hp]; rfl) | skip
      refine ⟨_, _, by rw [hp]; rfl, rfl, rfl, rfl⟩
    · rw [if_neg c0] at hp
      cases hq : pe1 (I 103) (L 110) (400 * r) (I 105 (48 * r + 4 * c + 2)) (I 105 (48 * r + 4 * c + 3)) with
      | none => rw [hq] at hp; cases hp
      | some t =>
        rw [hq] at hp
        simp only at hp
        by_cases hx2 : t = 1
        · rw [if_pos hx2] at hp
          have hx3 : xlcm ((some t).getD 0) 1 = 0 := (xl_eq _ _).mpr hx2
          repeat' first | (with_reducible intro _) | (with_reducible refine And.intro ?_ ?_)
          all_goals first | omega | rfl | (rw [hp]; rfl) | (exact ⟨_, _, by rw [hp]; rfl, rfl, rfl, rfl⟩)
        · rw [if_neg hx2] at hp
          have hx3 : ¬ xlcm ((some t).getD 0) 1 = 0 := fun q => hx2 ((xl_eq _ _).mp q)
          repeat' first | (with_reducible intro _) | (with_reducible refine And.intro ?_ ?_)
          all_goals first | omega | rfl | skip
          exact ih (c + 1) 0 _ _ (by omega) (by omega) hp
theorem c_206 {I : XI} {L : XL} {D : GD}   {r : Int} (h : ((0 ≤ r ∧ r < 6) ∧ (0 ≤ I 106 r ∧ I 106 r ≤ 12) ∧ RB (I 105) ∧ (prl (I 103) (I 105) (L 110) r (I 106 r).toNat 0).isSome = true)) : xM 2 206 [xr (some 101), xi r] I L (gG D) (0, 0) (fun r2 I2 L2 G2 => ∃ (tp : Int) (K : Int → Int64), r2 = (some (xl ((prl (I 103) (I 105) (L 110) r (I 106 r).toNat 0).getD 0))) ∧ I2 = (xsc I 101 (xup (I 101) (18 : Int) tp)) ∧ L2 = (xsc L 109 K) ∧ G2 = (gG D)) := by
  intro d hd
  obtain ⟨hr, hn, hcl, hp⟩ := h
  obtain ⟨v, hv⟩ := Option.isSome_iff_exists.mp hp
  rw [hv]
  refine w_206 (by omega) ?_
  have := lp_206 (I := I) (L := L) (D := D) (d := d) (by omega) hr hn hcl (I 106 r).toNat 0 (I 101 18) (L 109) (xt 0) (by omega) (Int.le_refl _) hv
  rw [xm6, xs_self] at this
  exact this
