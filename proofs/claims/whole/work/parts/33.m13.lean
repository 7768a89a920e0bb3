/-! by which rule it was -/
def prn (sg cl cn : Int → Int) (kk : Int) (a : Int → Int) (r : Int) (n : Nat) : Int → Int := ppassn (r - 1) (pR sg cl cn (r - 1)) kk n (pbeg a)
def pfitn (sg cl cn : Int → Int) (kk : Int) (a : Int → Int) (r : Int) : Nat → Bool
  | 0 => true
  | k + 1 => pfitn sg cl cn kk a r k && pnso (prn sg cl cn kk a r (k + 1)) (k : Int)
def pftn (sg cl cn : Int → Int) (kk : Int) (a : Int → Int) (f : Int → Int) : Nat → (Int → Int)
  | 0 => f
  | r + 1 => xup (pftn sg cl cn kk a f r) (r : Int) (xb (pfitn sg cl cn kk a (r : Int) 61 = true))
def pwtn (sg cl cn : Int → Int) (kk : Int) (a : Int → Int) (th : Int) (w : Int → Int) : Nat → (Int → Int)
  | 0 => w
  | r + 1 => xcp (prn sg cl cn kk a (r : Int) (th + 1).toNat) (pwtn sg cl cn kk a th w r) 11 (10 * (r : Int)) 10
theorem SO_beg {a : Int → Int} (h : SO a) : SO (pbeg a) := by
  obtain ⟨h3, h4, h5, h6, h7, h8, h9, h10, h11, h12, h13, h14⟩ := h
  have e : ∀ j, (j < 10 ∨ 26 ≤ j) → pbeg a j = a j := by
    intro j hj
    unfold pbeg
    rw [if_neg (by omega), if_neg (by omega), if_neg (by omega)]
  refine ⟨?_, ?_, ?_, ?_, ?_, ?_, ?_, ?_, ?_, ?_, ?_, ?_⟩
  · rw [e _ (by omega)]; exact h3
  · rw [e _ (by omega)]; exact h4
  · rw [e _ (by omega)]; exact h5
  · rw [e _ (by omega)]; exact h6
  · rw [e _ (by omega)]; exact h7
  · show 0 ≤ (0 : Int) ∧ (0 : Int) ≤ 2000; decide
  · intro s a1 b1
    have e11 : pbeg a (11 + s) = -1 := by
      unfold pbeg
      rw [if_neg (by omega), if_pos (by omega)]
    rw [e 4 (by omega), e11]
    exact ⟨by omega, Or.inl (by omega)⟩
  · intro g a1 b1
    have := h13 g a1 b1
    unfold pbeg
    rw [if_neg (by omega), if_neg (by omega), if_pos (by omega), show 25 + (21 + g) = 46 + g by omega]
    exact this
  · intro s a1 b1; rw [e _ (by omega)]; exact h11 s a1 b1
  · intro s a1 b1; rw [e _ (by omega)]; exact h12 s a1 b1
  · intro s a1 b1; rw [e _ (by omega)]; exact h13 s a1 b1
  · intro s a1 b1; rw [e _ (by omega)]; exact h14 s a1 b1
theorem pbeg_out {a : Int → Int} {j : Int} (hj : j < 10 ∨ 26 ≤ j) : pbeg a j = a j := by
  unfold pbeg
  rw [if_neg (by omega), if_neg (by omega), if_neg (by omega)]
theorem pbeg_congr {a b : Int → Int} (h : ∀ j, (j < 10 ∨ 26 ≤ j) → b j = a j) : pbeg b = pbeg a := by
  funext j
  unfold pbeg
  (repeat' split) <;> first | rfl | exact h _ (by omega)
theorem NO_congr {a b : Int → Int} (h : ∀ j, 71 ≤ j → b j = a j) (hN : NO a) : NO b := by
  refine ⟨?_, ?_⟩
  · rw [h _ (by omega)]; exact hN.1
  · intro i h0 h1
    rw [h _ (by omega), h _ (by omega), h _ (by omega)]
    exact hN.2 i h0 h1
def ROA (sg cl cn : Int → Int) (rs : Int) : Prop := ∀ r, -1 ≤ r → r < rs → RO sg cl cn r
theorem prn_turn (sg cl cn : Int → Int) (kk : Int) (a : Int → Int) (r : Int) (n : Nat) : prn sg cl cn kk a r n 10 = (n : Int) := by
  unfold prn
  rw [ppassn_turn]
  show (0 : Int) + _ = _
  omega
theorem SO_prn {sg cl cn : Int → Int} {kk : Int} {a : Int → Int} (h : SO a) {r : Int} {n : Nat} (hn : n ≤ 100) : SO (prn sg cl cn kk a r n) := SO_passn (SO_beg h) n (by show (0 : Int) + _ ≤ _; omega)
theorem prn_out {sg cl cn : Int → Int} {kk : Int} {a : Int → Int} (h : SO a) {r : Int} {n : Nat} (hn : n ≤ 100) {j : Int} (hj : j < 10 ∨ 26 ≤ j) : prn sg cl cn kk a r n j = a j := by
  unfold prn
  rw [ppassn_out (SO_beg h) (by omega) n (by show (0 : Int) + _ ≤ _; omega), pbeg_out hj]
theorem NO_prn {sg cl cn : Int → Int} {kk : Int} {a : Int → Int} (h : SO a) (hN : NO a) {r : Int} {n : Nat} (hn : n ≤ 100) : NO (prn sg cl cn kk a r n) := NO_congr (fun j hj => prn_out h hn (by omega)) hN
set_option maxRecDepth 8000 in
theorem sg_250_0 {d : Nat} {I : XI} {L : XL} {D : GD} {post : XQ}  {u1 : Int} (h : xR d 250 es_250 4 [xr (some 101), xi u1, xi (I 101 (21 : Int)), xt 0, xt 0, xt 0, xt 0] [xr (some 101)] I L (gG D) 0 0 post) : xR d 250 es_250 0 [xr (some 101), xi u1, xt 0, xt 0, xt 0, xt 0, xt 0] [] I L (gG D) 0 0 post := xW_R (fun k => Nat.beq k 4 || Nat.beq k 7 || Nat.beq k 17 || Nat.beq k 22 || Nat.beq k 26 || Nat.beq k 32 || Nat.beq k 40 || Nat.beq k 75) 4 _ _ _ _ _ _ _ _ _ _ _ _ h
set_option maxRecDepth 8000 in
theorem sg_250_5 {d : Nat} {I : XI} {L : XL} {D : GD} {post : XQ}  {u1 : Int} {u2 : Int} (h : xR d 250 es_250 7 [xr (some 101), xi u1, xi u2, xi (0 : Int), xt 0, xt 0, xt 0] [] I L (gG D) 0 0 post) : xR d 250 es_250 5 [xr (some 101), xi u1, xi u2, xt 0, xt 0, xt 0, xt 0] [] I L (gG D) 0 0 post := xW_R (fun k => Nat.beq k 4 || Nat.beq k 7 || Nat.beq k 17 || Nat.beq k 22 || Nat.beq k 26 || Nat.beq k 32 || Nat.beq k 40 || Nat.beq k 75) 2 _ _ _ _ _ _ _ _ _ _ _ _ h
set_option maxRecDepth 8000 in
theorem w_250 {d : Nat} {I : XI} {L : XL} {D : GD} {post : XQ}   {th : Int} (hd : 1 ≤ d) (h : xR d 250 es_250 7 [xr (some 101), xi th, xi (I 101 (21 : Int)), xi (0 : Int), xt 0, xt 0, xt 0] [] (xsc I 113 (xcp (I 111) (I 113) 10 0 16)) L (gG D) 0 0 post) : xR d 250 es_250 0 [xr (some 101), xi th, xt 0, xt 0, xt 0, xt 0, xt 0] [] I L (gG D) 0 0 post := sg_250_0  ((xR_cF rfl rfl rfl c_220 (by omega) (sg_250_5  h)))
set_option maxRecDepth 8000 in
theorem sg_250_7 {d : Nat} {I : XI} {L : XL} {D : GD} {post : XQ}  {u1 : Int} {u2 : Int} {u3 : Int} {u4 : XV} {u5 : XV} {u6 : XV} (h : (((-2147483648 ≤ u3 ∧ u3 ≤ 2147483647) ∧ (-2147483648 ≤ (I 101 (2 : Int)) ∧ (I 101 (2 : Int)) ≤ 2147483647)) ∧ (((I 101 (2 : Int)) < u3 → xR d 250 es_250 75 [xr (some 101), xi u1, xi u2, xi u3, u4, u5, u6] [xr (some 101)] (xwr I 101 (21 : Int) u2) L (gG D) 0 0 post) ∧ (u3 ≤ (I 101 (2 : Int)) → xR d 250 es_250 17 [xr (some 101), xi u1, xi u2, xi u3, u4, u5, u6] [xr (some 101)] (xwr I 101 (21 : Int) (u3 - (1 : Int))) L (gG D) 0 0 post)))) : xR d 250 es_250 7 [xr (some 101), xi u1, xi u2, xi u3, u4, u5, u6] [] I L (gG D) 0 0 post := xW_R (fun k => Nat.beq k 4 || Nat.beq k 7 || Nat.beq k 17 || Nat.beq k 22 || Nat.beq k 26 || Nat.beq k 32 || Nat.beq k 40 || Nat.beq k 75) 10 _ _ _ _ _ _ _ _ _ _ _ _ h
set_option maxRecDepth 8000 in
theorem sg_250_76 {d : Nat} {I : XI} {L : XL} {D : GD} {post : XQ}  {u1 : Int} {u2 : Int} {u3 : Int} {u4 : XV} {u5 : XV} {u6 : XV} (h : post none I L (gG D)) : xR d 250 es_250 76 [xr (some 101), xi u1, xi u2, xi u3, u4, u5, u6] [] I L (gG D) 0 0 post := xW_R (fun k => Nat.beq k 4 || Nat.beq k 7 || Nat.beq k 17 || Nat.beq k 22 || Nat.beq k 26 || Nat.beq k 32 || Nat.beq k 40 || Nat.beq k 75) 1 _ _ _ _ _ _ _ _ _ _ _ _ h
set_option maxRecDepth 8000 in
theorem sg_250_18 {d : Nat} {I : XI} {L : XL} {D : GD} {post : XQ}  {u1 : Int} {u2 : Int} {u3 : Int} {u4 : XV} {u5 : XV} {u6 : XV} (h : xR d 250 es_250 22 [xr (some 101), xi u1, xi u2, xi u3, xi (1 : Int), xi (0 : Int), u6] [] I L (gG D) 0 0 post) : xR d 250 es_250 18 [xr (some 101), xi u1, xi u2, xi u3, u4, u5, u6] [] I L (gG D) 0 0 post := xW_R (fun k => Nat.beq k 4 || Nat.beq k 7 || Nat.beq k 17 || Nat.beq k 22 || Nat.beq k 26 || Nat.beq k 32 || Nat.beq k 40 || Nat.beq k 75) 4 _ _ _ _ _ _ _ _ _ _ _ _ h
set_option maxRecDepth 8000 in
theorem b_250 {d : Nat} {I : XI} {L : XL} {D : GD} {post : XQ} {tp fo : Int} {K W : Int → Int64} {rw_ kp ft wt : Int → Int}  {th : Int} {wa : Int} {r : Int} {x4 : XV} {x5 : XV} {x6 : XV} (hd : 1 ≤ d) (h : (((-2147483648 ≤ r ∧ r ≤ 2147483647) ∧ (-2147483648 ≤ (I 101 (2 : Int)) ∧ (I 101 (2 : Int)) ≤ 2147483647)) ∧ (((I 101 (2 : Int)) < r → post none (xsc (xsc (xsc (xsc (xsc I 101 (xup (xup (I 101) (18 : Int) tp) (21 : Int) wa)) 111 (xcp kp rw_ 0 10 16)) 113 kp) 120 ft) 121 wt) (xsc (xsc L 109 K) 110 W) (gG D)) ∧ (r ≤ (I 101 (2 : Int)) → xR d 250 es_250 22 [xr (some 101), xi th, xi wa, xi r, xi (1 : Int), xi (0 : Int), x6] [] (xsc (xsc (xsc (xsc (xsc I 101 (xup (xup (I 101) (18 : Int) tp) (21 : Int) (r - (1 : Int)))) 111 (pbeg rw_)) 113 kp) 120 ft) 121 wt) (xsc (xsc L 109 K) 110 W) (gG D) 0 0 post)))) : xR d 250 es_250 7 [xr (some 101), xi th, xi wa, xi r, x4, x5, x6] [] (xsc (xsc (xsc (xsc (xsc I 101 (xup (xup (I 101) (18 : Int) tp) (21 : Int) fo)) 111 rw_) 113 kp) 120 ft) 121 wt) (xsc (xsc L 109 K) 110 W) (gG D) 0 0 post := sg_250_7  (⟨⟨h.1.1, h.1.2⟩, ⟨fun q525 => (xR_cF rfl rfl rfl c_221 (by omega) (sg_250_76  (xpost (h.2.1 q525) (funext fun i => (xpt rfl (fun h121_ => (xpt rfl (fun h120_ => (xpt rfl (fun h113_ => (xpt rfl (fun h111_ => (xpt (show (xup (xup (xup (I 101) (18 : Int) tp) (21 : Int) fo) (21 : Int) wa) = (xup (xup (I 101) (18 : Int) tp) (21 : Int) wa) from by funext j; simp only [xup]; (repeat' split) <;> first | rfl | omega) (fun h101_ => (by simp only [xsc_ne _ _ h101_, xwr_ne _ _ _ h101_, xsc_ne _ _ h111_, xwr_ne _ _ _ h111_, xsc_ne _ _ h113_, xwr_ne _ _ _ h113_, xsc_ne _ _ h120_, xwr_ne _ _ _ h120_, xsc_ne _ _ h121_, xwr_ne _ _ _ h121_])))))))))))) rfl))), fun q526 => (xR_cF rfl rfl rfl c_202 (by omega) (sg_250_18  (xR_memc (h.2.2 q526) (funext fun i => (xpt rfl (fun h121_ => (xpt rfl (fun h120_ => (xpt rfl (fun h113_ => (xpt rfl (fun h111_ => (xpt (show (xup (xup (xup (I 101) (18 : Int) tp) (21 : Int) fo) (21 : Int) (r - (1 : Int))) = (xup (xup (I 101) (18 : Int) tp) (21 : Int) (r - (1 : Int))) from by funext j; simp only [xup]; (repeat' split) <;> first | rfl | omega) (fun h101_ => (by simp only [xsc_ne _ _ h101_, xwr_ne _ _ _ h101_, xsc_ne _ _ h111_, xwr_ne _ _ _ h111_, xsc_ne _ _ h113_, xwr_ne _ _ _ h113_, xsc_ne _ _ h120_, xwr_ne _ _ _ h120_, xsc_ne _ _ h121_, xwr_ne _ _ _ h121_])))))))))))) rfl)))⟩⟩)
set_option maxRecDepth 8000 in
theorem sg_250_22 {d : Nat} {I : XI} {L : XL} {D : GD} {post : XQ}  {u1 : Int} {u2 : Int} {u3 : Int} {u4 : Int} {u5 : Int} {u6 : XV} (h : (((-2147483648 ≤ u5 ∧ u5 ≤ 2147483647) ∧ (-2147483648 ≤ (60 : Int) ∧ (60 : Int) ≤ 2147483647)) ∧ (((60 : Int) < u5 → ((0 ≤ u3 ∧ u3 < (7 : Int) ∧ (u4 = 0 ∨ u4 = 1)) ∧ xR d 250 es_250 7 [xr (some 101), xi u1, xi u2, xi (u3 + (1 : Int)), xi u4, xi u5, u6] [] (xwr I 120 u3 u4) L (gG D) 0 0 post)) ∧ (u5 ≤ (60 : Int) → xR d 250 es_250 26 [xr (some 101), xi u1, xi u2, xi u3, xi u4, xi u5, u6] [xr (some 101)] I L (gG D) 0 0 post)))) : xR d 250 es_250 22 [xr (some 101), xi u1, xi u2, xi u3, xi u4, xi u5, u6] [] I L (gG D) 0 0 post := xW_R (fun k => Nat.beq k 4 || Nat.beq k 7 || Nat.beq k 17 || Nat.beq k 22 || Nat.beq k 26 || Nat.beq k 32 || Nat.beq k 40 || Nat.beq k 75) 10 _ _ _ _ _ _ _ _ _ _ _ _ h
set_option maxRecDepth 8000 in
theorem sg_250_27 {d : Nat} {I : XI} {L : XL} {D : GD} {post : XQ}  {u1 : Int} {u2 : Int} {u3 : Int} {u4 : Int} {u5 : Int} {u6 : XV} {w0 : Int} (h : ((-2147483648 ≤ u4 ∧ u4 ≤ 2147483647) ∧ ((u4 = 0 → xR d 250 es_250 40 [xr (some 101), xi u1, xi u2, xi u3, xi (0 : Int), xi u5, xi (0 : Int)] [] I L (gG D) 0 0 post) ∧ (¬ u4 = 0 → xR d 250 es_250 32 [xr (some 101), xi u1, xi u2, xi u3, xi u4, xi u5, u6] [xi u5, xr (some 101)] I L (gG D) 0 0 post)))) : xR d 250 es_250 27 [xr (some 101), xi u1, xi u2, xi u3, xi u4, xi u5, u6] [xi w0] I L (gG D) 0 0 post := xW_R (fun k => Nat.beq k 4 || Nat.beq k 7 || Nat.beq k 17 || Nat.beq k 22 || Nat.beq k 26 || Nat.beq k 32 || Nat.beq k 40 || Nat.beq k 75) 7 _ _ _ _ _ _ _ _ _ _ _ _ h
set_option maxRecDepth 8000 in
theorem sg_250_33 {d : Nat} {I : XI} {L : XL} {D : GD} {post : XQ}  {u1 : Int} {u2 : Int} {u3 : Int} {u4 : Int} {u5 : Int} {u6 : XV} {w0 : Int} (h : ((-2147483648 ≤ w0 ∧ w0 ≤ 2147483647) ∧ ((w0 = 0 → xR d 250 es_250 40 [xr (some 101), xi u1, xi u2, xi u3, xi (0 : Int), xi u5, xi (0 : Int)] [] I L (gG D) 0 0 post) ∧ (¬ w0 = 0 → xR d 250 es_250 40 [xr (some 101), xi u1, xi u2, xi u3, xi (1 : Int), xi u5, xi (0 : Int)] [] I L (gG D) 0 0 post)))) : xR d 250 es_250 33 [xr (some 101), xi u1, xi u2, xi u3, xi u4, xi u5, u6] [xi w0] I L (gG D) 0 0 post := xW_R (fun k => Nat.beq k 4 || Nat.beq k 7 || Nat.beq k 17 || Nat.beq k 22 || Nat.beq k 26 || Nat.beq k 32 || Nat.beq k 40 || Nat.beq k 75) 6 _ _ _ _ _ _ _ _ _ _ _ _ h
set_option maxRecDepth 8000 in
theorem b_250n {d : Nat} {I : XI} {L : XL} {D : GD} {post : XQ} {tp fo : Int} {K W : Int → Int64} {rw_ kp ft wt : Int → Int}  {th : Int} {wa : Int} {r : Int} {is_ : Int} {n : Int} {x6 : XV} (hd : 7 ≤ d) (h : (((-2147483648 ≤ n ∧ n ≤ 2147483647)) ∧ (((60 : Int) < n → ((0 ≤ r ∧ r < (7 : Int) ∧ (is_ = 0 ∨ is_ = 1)) ∧ xR d 250 es_250 7 [xr (some 101), xi th, xi wa, xi (r + (1 : Int)), xi is_, xi n, x6] [] (xsc (xsc (xsc (xsc (xsc I 101 (xup (xup (I 101) (18 : Int) tp) (21 : Int) fo)) 111 rw_) 113 kp) 120 (xup ft r is_)) 121 wt) (xsc (xsc L 109 K) 110 W) (gG D) 0 0 post)) ∧ (n ≤ (60 : Int) → ((SO rw_ ∧ rw_ (10 : Int) < 2000 ∧ RO (I 103) (I 105) (I 106) (fo)) ∧ (∀ (e527 : Int) (e528 : Int → Int64) (e529 : Int → Int64), (((-2147483648 ≤ is_ ∧ is_ ≤ 2147483647)) ∧ ((is_ = 0 → xR d 250 es_250 40 [xr (some 101), xi th, xi wa, xi r, xi (0 : Int), xi n, xi (0 : Int)] [] (xsc (xsc (xsc (xsc (xsc I 101 (xup (xup (I 101) (18 : Int) e527) (21 : Int) fo)) 111 (ppass (fo) (pR (I 103) (I 105) (I 106) (fo)) (I 101 (23 : Int)) rw_ )) 113 kp) 120 ft) 121 wt) (xsc (xsc L 109 e528) 110 e529) (gG D) 0 0 post) ∧ (¬ is_ = 0 → ((SO (ppass (fo) (pR (I 103) (I 105) (I 106) (fo)) (I 101 (23 : Int)) rw_ ) ∧ NO (ppass (fo) (pR (I 103) (I 105) (I 106) (fo)) (I 101 (23 : Int)) rw_ ) ∧ (-2147483648 ≤ n ∧ n ≤ 2147483647)) ∧ (((¬ (pnso (ppass (fo) (pR (I 103) (I 105) (I 106) (fo)) (I 101 (23 : Int)) rw_ ) n = true) → xR d 250 es_250 40 [xr (some 101), xi th, xi wa, xi r, xi (0 : Int), xi n, xi (0 : Int)] [] (xsc (xsc (xsc (xsc (xsc I 101 (xup (xup (I 101) (18 : Int) e527) (21 : Int) fo)) 111 (ppass (fo) (pR (I 103) (I 105) (I 106) (fo)) (I 101 (23 : Int)) rw_ )) 113 kp) 120 ft) 121 wt) (xsc (xsc L 109 e528) 110 e529) (gG D) 0 0 post) ∧ (pnso (ppass (fo) (pR (I 103) (I 105) (I 106) (fo)) (I 101 (23 : Int)) rw_ ) n = true → xR d 250 es_250 40 [xr (some 101), xi th, xi wa, xi r, xi (1 : Int), xi n, xi (0 : Int)] [] (xsc (xsc (xsc (xsc (xsc I 101 (xup (xup (I 101) (18 : Int) e527) (21 : Int) fo)) 111 (ppass (fo) (pR (I 103) (I 105) (I 106) (fo)) (I 101 (23 : Int)) rw_ )) 113 kp) 120 ft) 121 wt) (xsc (xsc L 109 e528) 110 e529) (gG D) 0 0 post))))))))))))) : xR d 250 es_250 22 [xr (some 101), xi th, xi wa, xi r, xi is_, xi n, x6] [] (xsc (xsc (xsc (xsc (xsc I 101 (xup (xup (I 101) (18 : Int) tp) (21 : Int) fo)) 111 rw_) 113 kp) 120 ft) 121 wt) (xsc (xsc L 109 K) 110 W) (gG D) 0 0 post := sg_250_22  (⟨⟨h.1, (by decide)⟩, ⟨fun q534 => ⟨⟨(h.2.1 q534).1.1, (h.2.1 q534).1.2.1, (h.2.1 q534).1.2.2⟩, (xR_memc (h.2.1 q534).2 (funext fun i => (xpt rfl (fun h121_ => (xpt rfl (fun h120_ => (xpt rfl (fun h113_ => (xpt rfl (fun h111_ => (xpt rfl (fun h101_ => (by simp only [xsc_ne _ _ h101_, xwr_ne _ _ _ h101_, xsc_ne _ _ h111_, xwr_ne _ _ _ h111_, xsc_ne _ _ h113_, xwr_ne _ _ _ h113_, xsc_ne _ _ h120_, xwr_ne _ _ _ h120_, xsc_ne _ _ h121_, xwr_ne _ _ _ h121_])))))))))))) rfl)⟩, fun q535 => (xR_cQ rfl rfl rfl (c_210 (h.2.2 q535).1) (by omega) (fun _ _ _ _ hx536 => by obtain ⟨e527, e528, e529, rfl, rfl, rfl, rfl⟩ := hx536; exact (sg_250_27  ⟨((h.2.2 q535).2 e527 e528 e529).1, ⟨fun q532 => (xR_memc (((h.2.2 q535).2 e527 e528 e529).2.1 q532) (funext fun i => (xpt rfl (fun h121_ => (xpt rfl (fun h120_ => (xpt rfl (fun h113_ => (xpt rfl (fun h111_ => (xpt (show (xup (xup (xup (I 101) (18 : Int) tp) (21 : Int) fo) (18 : Int) e527) = (xup (xup (I 101) (18 : Int) e527) (21 : Int) fo) from by funext j; simp only [xup]; (repeat' split) <;> first | rfl | omega) (fun h101_ => (by simp only [xsc_ne _ _ h101_, xwr_ne _ _ _ h101_, xsc_ne _ _ h111_, xwr_ne _ _ _ h111_, xsc_ne _ _ h113_, xwr_ne _ _ _ h113_, xsc_ne _ _ h120_, xwr_ne _ _ _ h120_, xsc_ne _ _ h121_, xwr_ne _ _ _ h121_])))))))))))) (funext fun i => (xpt rfl (fun h110_ => (xpt rfl (fun h109_ => (by simp only [xsc_ne _ _ h109_, xwr_ne _ _ _ h109_, xsc_ne _ _ h110_, xwr_ne _ _ _ h110_]))))))), fun q533 => (xR_cF rfl rfl rfl (c_249 (((h.2.2 q535).2 e527 e528 e529).2.2 q533).1) (by omega) (sg_250_33  ⟨(xb_rg _), ⟨fun q530 => (xR_memc ((((h.2.2 q535).2 e527 e528 e529).2.2 q533).2.1 (xb_0 q530)) (funext fun i => (xpt rfl (fun h121_ => (xpt rfl (fun h120_ => (xpt rfl (fun h113_ => (xpt rfl (fun h111_ => (xpt (show (xup (xup (xup (I 101) (18 : Int) tp) (21 : Int) fo) (18 : Int) e527) = (xup (xup (I 101) (18 : Int) e527) (21 : Int) fo) from by funext j; simp only [xup]; (repeat' split) <;> first | rfl | omega) (fun h101_ => (by simp only [xsc_ne _ _ h101_, xwr_ne _ _ _ h101_, xsc_ne _ _ h111_, xwr_ne _ _ _ h111_, xsc_ne _ _ h113_, xwr_ne _ _ _ h113_, xsc_ne _ _ h120_, xwr_ne _ _ _ h120_, xsc_ne _ _ h121_, xwr_ne _ _ _ h121_])))))))))))) (funext fun i => (xpt rfl (fun h110_ => (xpt rfl (fun h109_ => (by simp only [xsc_ne _ _ h109_, xwr_ne _ _ _ h109_, xsc_ne _ _ h110_, xwr_ne _ _ _ h110_]))))))), fun q531 => (xR_memc ((((h.2.2 q535).2 e527 e528 e529).2.2 q533).2.2 (xb_n0 q531)) (funext fun i => (xpt rfl (fun h121_ => (xpt rfl (fun h120_ => (xpt rfl (fun h113_ => (xpt rfl (fun h111_ => (xpt (show (xup (xup (xup (I 101) (18 : Int) tp) (21 : Int) fo) (18 : Int) e527) = (xup (xup (I 101) (18 : Int) e527) (21 : Int) fo) from by funext j; simp only [xup]; (repeat' split) <;> first | rfl | omega) (fun h101_ => (by simp only [xsc_ne _ _ h101_, xwr_ne _ _ _ h101_, xsc_ne _ _ h111_, xwr_ne _ _ _ h111_, xsc_ne _ _ h113_, xwr_ne _ _ _ h113_, xsc_ne _ _ h120_, xwr_ne _ _ _ h120_, xsc_ne _ _ h121_, xwr_ne _ _ _ h121_])))))))))))) (funext fun i => (xpt rfl (fun h110_ => (xpt rfl (fun h109_ => (by simp only [xsc_ne _ _ h109_, xwr_ne _ _ _ h109_, xsc_ne _ _ h110_, xwr_ne _ _ _ h110_])))))))⟩⟩))⟩⟩)))⟩⟩)
set_option maxRecDepth 8000 in
theorem sg_250_40 {d : Nat} {I : XI} {L : XL} {D : GD} {post : XQ}  {u1 : Int} {u2 : Int} {u3 : Int} {u4 : Int} {u5 : Int} {u6 : Int} (h : (((-2147483648 ≤ u6 ∧ u6 ≤ 2147483647) ∧ (-2147483648 ≤ (10 : Int) ∧ (10 : Int) ≤ 2147483647)) ∧ (((10 : Int) ≤ u6 → xR d 250 es_250 22 [xr (some 101), xi u1, xi u2, xi u3, xi u4, xi (u5 + (1 : Int)), xi u6] [] I L (gG D) 0 0 post) ∧ (u6 < (10 : Int) → (((-2147483648 ≤ u5 ∧ u5 ≤ 2147483647) ∧ (-2147483648 ≤ u1 ∧ u1 ≤ 2147483647)) ∧ ((¬ u5 = u1 → xR d 250 es_250 22 [xr (some 101), xi u1, xi u2, xi u3, xi u4, xi (u5 + (1 : Int)), xi u6] [] I L (gG D) 0 0 post) ∧ (u5 = u1 → ((0 ≤ ((11 : Int) + u6) ∧ ((11 : Int) + u6) < (102 : Int)) ∧ ((0 ≤ (((10 : Int) * u3) + u6) ∧ (((10 : Int) * u3) + u6) < (70 : Int)) ∧ xR d 250 es_250 40 [xr (some 101), xi u1, xi u2, xi u3, xi u4, xi u5, xi (u6 + (1 : Int))] [] (xwr I 121 (((10 : Int) * u3) + u6) (I 111 ((11 : Int) + u6))) L (gG D) 0 0 post))))))))) : xR d 250 es_250 40 [xr (some 101), xi u1, xi u2, xi u3, xi u4, xi u5, xi u6] [] I L (gG D) 0 0 post := xW_R (fun k => Nat.beq k 4 || Nat.beq k 7 || Nat.beq k 17 || Nat.beq k 22 || Nat.beq k 26 || Nat.beq k 32 || Nat.beq k 40 || Nat.beq k 75) 22 _ _ _ _ _ _ _ _ _ _ _ _ h
set_option maxRecDepth 8000 in
theorem b_250s {d : Nat} {I : XI} {L : XL} {D : GD} {post : XQ} {tp fo : Int} {K W : Int → Int64} {rw_ kp ft wt : Int → Int}  {th : Int} {wa : Int} {r : Int} {is_ : Int} {n : Int} {s : Int} (hd : 0 ≤ d) (h : (((-2147483648 ≤ s ∧ s ≤ 2147483647)) ∧ (((10 : Int) ≤ s → xR d 250 es_250 22 [xr (some 101), xi th, xi wa, xi r, xi is_, xi (n + (1 : Int)), xi s] [] (xsc (xsc (xsc (xsc (xsc I 101 (xup (xup (I 101) (18 : Int) tp) (21 : Int) fo)) 111 rw_) 113 kp) 120 ft) 121 wt) (xsc (xsc L 109 K) 110 W) (gG D) 0 0 post) ∧ (s < (10 : Int) → (((-2147483648 ≤ n ∧ n ≤ 2147483647) ∧ (-2147483648 ≤ th ∧ th ≤ 2147483647)) ∧ ((¬ n = th → xR d 250 es_250 22 [xr (some 101), xi th, xi wa, xi r, xi is_, xi (n + (1 : Int)), xi s] [] (xsc (xsc (xsc (xsc (xsc I 101 (xup (xup (I 101) (18 : Int) tp) (21 : Int) fo)) 111 rw_) 113 kp) 120 ft) 121 wt) (xsc (xsc L 109 K) 110 W) (gG D) 0 0 post) ∧ (n = th → (((0 ≤ ((11 : Int) + s) ∧ ((11 : Int) + s) < (102 : Int))) ∧ (((0 ≤ (((10 : Int) * r) + s) ∧ (((10 : Int) * r) + s) < (70 : Int))) ∧ xR d 250 es_250 40 [xr (some 101), xi th, xi wa, xi r, xi is_, xi n, xi (s + (1 : Int))] [] (xsc (xsc (xsc (xsc (xsc I 101 (xup (xup (I 101) (18 : Int) tp) (21 : Int) fo)) 111 rw_) 113 kp) 120 ft) 121 (xup wt (((10 : Int) * r) + s) (rw_ ((11 : Int) + s)))) (xsc (xsc L 109 K) 110 W) (gG D) 0 0 post))))))))) : xR d 250 es_250 40 [xr (some 101), xi th, xi wa, xi r, xi is_, xi n, xi s] [] (xsc (xsc (xsc (xsc (xsc I 101 (xup (xup (I 101) (18 : Int) tp) (21 : Int) fo)) 111 rw_) 113 kp) 120 ft) 121 wt) (xsc (xsc L 109 K) 110 W) (gG D) 0 0 post := sg_250_40  (⟨⟨h.1, (by decide)⟩, ⟨fun q540 => (xR_memc (h.2.1 q540) (funext fun i => (xpt rfl (fun h121_ => (xpt rfl (fun h120_ => (xpt rfl (fun h113_ => (xpt rfl (fun h111_ => (xpt rfl (fun h101_ => (by simp only [xsc_ne _ _ h101_, xwr_ne _ _ _ h101_, xsc_ne _ _ h111_, xwr_ne _ _ _ h111_, xsc_ne _ _ h113_, xwr_ne _ _ _ h113_, xsc_ne _ _ h120_, xwr_ne _ _ _ h120_, xsc_ne _ _ h121_, xwr_ne _ _ _ h121_])))))))))))) rfl), fun q541 => ⟨⟨(h.2.2 q541).1.1, (h.2.2 q541).1.2⟩, ⟨fun q538 => (xR_memc ((h.2.2 q541).2.1 q538) (funext fun i => (xpt rfl (fun h121_ => (xpt rfl (fun h120_ => (xpt rfl (fun h113_ => (xpt rfl (fun h111_ => (xpt rfl (fun h101_ => (by simp only [xsc_ne _ _ h101_, xwr_ne _ _ _ h101_, xsc_ne _ _ h111_, xwr_ne _ _ _ h111_, xsc_ne _ _ h113_, xwr_ne _ _ _ h113_, xsc_ne _ _ h120_, xwr_ne _ _ _ h120_, xsc_ne _ _ h121_, xwr_ne _ _ _ h121_])))))))))))) rfl), fun q539 => ⟨((h.2.2 q541).2.2 q539).1, ⟨((h.2.2 q541).2.2 q539).2.1, (xR_memc ((h.2.2 q541).2.2 q539).2.2 (funext fun i => (xpt rfl (fun h121_ => (xpt rfl (fun h120_ => (xpt rfl (fun h113_ => (xpt rfl (fun h111_ => (xpt rfl (fun h101_ => (by simp only [xsc_ne _ _ h101_, xwr_ne _ _ _ h101_, xsc_ne _ _ h111_, xwr_ne _ _ _ h111_, xsc_ne _ _ h113_, xwr_ne _ _ _ h113_, xsc_ne _ _ h120_, xwr_ne _ _ _ h120_, xsc_ne _ _ h121_, xwr_ne _ _ _ h121_])))))))))))) rfl)⟩⟩⟩⟩⟩⟩)
theorem lp_250s {I : XI} {L : XL} {D : GD} {d : Nat} {post : XQ} {th wa r is_ n : Int} {tp fo : Int} {K W : Int → Int64} {rw_ kp ft wt : Int → Int} (hr : 0 ≤ r ∧ r < 7) (hn : 0 ≤ n ∧ n ≤ 60) (ht : 0 ≤ th ∧ th ≤ 60) (hc : ∀ x6 : XV, xR d 250 es_250 22 [xr (some 101), xi th, xi wa, xi r, xi is_, xi (n + 1), x6] [] (xsc (xsc (xsc (xsc (xsc I 101 (xup (xup (I 101) (18 : Int) tp) (21 : Int) fo)) 111 rw_) 113 kp) 120 ft) 121 (if n = th then xcp rw_ wt 11 (10 * r) 10 else wt)) (xsc (xsc L 109 K) 110 W) (gG D) 0 0 post) : xR d 250 es_250 40 [xr (some 101), xi th, xi wa, xi r, xi is_, xi n, xi 0] [] (xsc (xsc (xsc (xsc (xsc I 101 (xup (xup (I 101) (18 : Int) tp) (21 : Int) fo)) 111 rw_) 113 kp) 120 ft) 121 wt) (xsc (xsc L 109 K) 110 W) (gG D) 0 0 post := by
  by_cases hq : n = th
  · rw [if_pos hq] at hc
    have key : ∀ k : Nat, k ≤ 10 → xR d 250 es_250 40 [xr (some 101), xi th, xi wa, xi r, xi is_, xi n, xi (k : Int)] [] (xsc (xsc (xsc (xsc (xsc I 101 (xup (xup (I 101) (18 : Int) tp) (21 : Int) fo)) 111 rw_) 113 kp) 120 ft) 121 (xcp rw_ wt 11 (10 * r) (k : Int))) (xsc (xsc L 109 K) 110 W) (gG D) 0 0 (post) := by
      refine xfor ?_ ?_
      · refine b_250s (by omega) ?_
        repeat' first | (with_reducible intro _) | (with_reducible refine And.intro ?_ ?_)
        all_goals first | omega | assumption | skip
        exact hc _
      · intro k hk ih 
        refine b_250s (by omega) ?_
        repeat' first | (with_reducible intro _) | (with_reducible refine And.intro ?_ ?_)
        all_goals first | omega | assumption | skip
        rw [xcp_step (by omega)]
        exact ih
    exact xR_memc (key 0 (Nat.zero_le _)) (by (funext i; by_cases h101 : i = 101; (subst h101; first | rfl | exact (xcp_zero _ _ _ _).symm | exact (xup_self _ _).symm | exact (xup_self2 _ _ _).symm | exact (xup_self3 _ _ _ _).symm | exact xup_self _ _); by_cases h111 : i = 111; (subst h111; first | rfl | exact (xcp_zero _ _ _ _).symm | exact (xup_self _ _).symm | exact (xup_self2 _ _ _).symm | exact (xup_self3 _ _ _ _).symm | exact xup_self _ _); by_cases h113 : i = 113; (subst h113; first | rfl | exact (xcp_zero _ _ _ _).symm | exact (xup_self _ _).symm | exact (xup_self2 _ _ _).symm | exact (xup_self3 _ _ _ _).symm | exact xup_self _ _); by_cases h120 : i = 120; (subst h120; first | rfl | exact (xcp_zero _ _ _ _).symm | exact (xup_self _ _).symm | exact (xup_self2 _ _ _).symm | exact (xup_self3 _ _ _ _).symm | exact xup_self _ _); by_cases h121 : i = 121; (subst h121; first | rfl | exact (xcp_zero _ _ _ _).symm | exact (xup_self _ _).symm | exact (xup_self2 _ _ _).symm | exact (xup_self3 _ _ _ _).symm | exact xup_self _ _); first | rfl | simp only [xsc_ne _ _ h101, xsc_ne _ _ h111, xsc_ne _ _ h113, xsc_ne _ _ h120, xsc_ne _ _ h121])) rfl
  · rw [if_neg hq] at hc
    refine b_250s (by omega) ?_
    repeat' first | (with_reducible intro _) | (with_reducible refine And.intro ?_ ?_)
    all_goals first | omega | exact hc _
theorem lp_250n {I : XI} {L : XL} {D : GD} {d : Nat} {post : XQ} {th wa r : Int} {tp : Int} {K W : Int → Int64} {kp ft wt : Int → Int} (hd : 7 ≤ d) (hS : SO (I 111)) (hN : NO (I 111)) (hR : RO (I 103) (I 105) (I 106) (r - 1)) (hr : 0 ≤ r ∧ r < 7) (ht : 0 ≤ th ∧ th ≤ 60) (x6 : XV) (hc : ∀ (tp : Int) (K W : Int → Int64) (x4 x5 x6 : XV), xR d 250 es_250 7 [xr (some 101), xi th, xi wa, xi (r + 1), x4, x5, x6] [] (xsc (xsc (xsc (xsc (xsc I 101 (xup (xup (I 101) (18 : Int) tp) (21 : Int) (r - 1))) 111 (prn (I 103) (I 105) (I 106) (I 101 23) (I 111) r 61)) 113 kp) 120 (xup ft r (xb (pfitn (I 103) (I 105) (I 106) (I 101 23) (I 111) r 61 = true)))) 121 (xcp (prn (I 103) (I 105) (I 106) (I 101 23) (I 111) r (th + 1).toNat) wt 11 (10 * r) 10)) (xsc (xsc L 109 K) 110 W) (gG D) 0 0 post) : xR d 250 es_250 22 [xr (some 101), xi th, xi wa, xi r, xi 1, xi 0, x6] [] (xsc (xsc (xsc (xsc (xsc I 101 (xup (xup (I 101) (18 : Int) tp) (21 : Int) (r - 1))) 111 (pbeg (I 111))) 113 kp) 120 ft) 121 wt) (xsc (xsc L 109 K) 110 W) (gG D) 0 0 post := by
  have key : ∀ k : Nat, k ≤ 61 → ∀ (tp : Int) (K : Int → Int64) (W : Int → Int64) (x6 : XV), xR d 250 es_250 22 [xr (some 101), xi th, xi wa, xi r, xi (xb (pfitn (I 103) (I 105) (I 106) (I 101 23) (I 111) r k = true)), xi (k : Int), x6] [] (xsc (xsc (xsc (xsc (xsc I 101 (xup (xup (I 101) (18 : Int) tp) (21 : Int) (r - 1))) 111 (prn (I 103) (I 105) (I 106) (I 101 23) (I 111) r k)) 113 kp) 120 ft) 121 (if th < (k : Int) then xcp (prn (I 103) (I 105) (I 106) (I 101 23) (I 111) r (th + 1).toNat) wt 11 (10 * r) 10 else wt)) (xsc (xsc L 109 K) 110 W) (gG D) 0 0 (post) := by
    refine xfor ?_ ?_
    · intro tp K W x6
      have hx := xb_01 (pfitn (I 103) (I 105) (I 106) (I 101 23) (I 111) r 61 = true)
      refine b_250n (by omega) ?_
      repeat' first | (with_reducible intro _) | (with_reducible refine And.intro ?_ ?_)
      all_goals first | omega | assumption | skip
      rw [if_pos (by omega)]
      exact hc _ _ _ _ _ _
    · intro k hk ih tp K W x6
      have hx := xb_01 (pfitn (I 103) (I 105) (I 106) (I 101 23) (I 111) r k = true)
      have hS2 := SO_prn (sg := I 103) (cl := I 105) (cn := I 106) (kk := I 101 23) hS (r := r) (n := k) (by omega)
      have hT := prn_turn (I 103) (I 105) (I 106) (I 101 23) (I 111) r k
      have hP : SO (prn (I 103) (I 105) (I 106) (I 101 23) (I 111) r k) ∧ prn (I 103) (I 105) (I 106) (I 101 23) (I 111) r k 10 < 2000 ∧ RO (I 103) (I 105) (I 106) (r - 1) := ⟨hS2, by omega, hR⟩
      have hS3 := SO_prn (sg := I 103) (cl := I 105) (cn := I 106) (kk := I 101 23) hS (r := r) (n := k + 1) (by omega)
      have hN3 := NO_prn (sg := I 103) (cl := I 105) (cn := I 106) (kk := I 101 23) hS hN (r := r) (n := k + 1) (by omega)
      have e1 : ppass (r - 1) (pR (I 103) (I 105) (I 106) (r - 1)) (I 101 23) (prn (I 103) (I 105) (I 106) (I 101 23) (I 111) r k) = prn (I 103) (I 105) (I 106) (I 101 23) (I 111) r (k + 1) := rfl
      have e2 : pfitn (I 103) (I 105) (I 106) (I 101 23) (I 111) r (k + 1) = (pfitn (I 103) (I 105) (I 106) (I 101 23) (I 111) r k && pnso (prn (I 103) (I 105) (I 106) (I 101 23) (I 111) r (k + 1)) (k : Int)) := rfl
      have e3 : (if (k : Int) = th then xcp (prn (I 103) (I 105) (I 106) (I 101 23) (I 111) r (k + 1)) (if th < (k : Int) then xcp (prn (I 103) (I 105) (I 106) (I 101 23) (I 111) r (th + 1).toNat) wt 11 (10 * r) 10 else wt) 11 (10 * r) 10 else (if th < (k : Int) then xcp (prn (I 103) (I 105) (I 106) (I 101 23) (I 111) r (th + 1).toNat) wt 11 (10 * r) 10 else wt)) = (if th < ((k + 1 : Nat) : Int) then xcp (prn (I 103) (I 105) (I 106) (I 101 23) (I 111) r (th + 1).toNat) wt 11 (10 * r) 10 else wt) := by
        by_cases q : (k : Int) = th
        · rw [if_pos q, if_neg (by omega), if_pos (by omega), show (th + 1).toNat = k + 1 by omega]
        · rw [if_neg q]
          by_cases q2 : th < (k : Int)
          · rw [if_pos q2, if_pos (by omega)]
          · rw [if_neg q2, if_neg (by omega)]
      refine b_250n (by omega) ?_
      rw [e1]
      repeat' first | (with_reducible intro _) | (with_reducible refine And.intro ?_ ?_)
      all_goals first | omega | assumption | skip
      all_goals first | (exact ⟨hS3, hN3, by omega⟩) | skip
      all_goals (refine lp_250s (by omega) (by omega) ht (fun x => ?_); rw [e3])
      all_goals first
        | (have e4 : xb (pfitn (I 103) (I 105) (I 106) (I 101 23) (I 111) r (k + 1) = true) = 0 := by rw [xb_f]; rw [e2]; have hz := xb_0 (by assumption); simp [hz]
           rw [e4] at ih; exact ih _ _ _ _)
        | (have e4 : xb (pfitn (I 103) (I 105) (I 106) (I 101 23) (I 111) r (k + 1) = true) = 0 := by rw [xb_f]; rw [e2]; simp_all
           rw [e4] at ih; exact ih _ _ _ _)
        | (have e4 : xb (pfitn (I 103) (I 105) (I 106) (I 101 23) (I 111) r (k + 1) = true) = 1 := by rw [xb_t]; rw [e2]; have hz := xb_n0 (by assumption); simp_all
           rw [e4] at ih; exact ih _ _ _ _)
  exact xR_memc (key 0 (Nat.zero_le _) tp K W x6) (by rw [if_neg (by omega)]; rfl) rfl
theorem c_250 {I : XI} {L : XL} {D : GD}   {th : Int} (h : (SO (I 111) ∧ NO (I 111) ∧ (0 ≤ I 101 (2 : Int) ∧ I 101 (2 : Int) ≤ 6) ∧ ROA (I 103) (I 105) (I 106) (I 101 (2 : Int)) ∧ (0 ≤ th ∧ th ≤ 60))) : xM 7 250 [xr (some 101), xi th] I L (gG D) (0, 0) (fun r2 I2 L2 G2 => ∃ (tp : Int) (K : Int → Int64) (W : Int → Int64) (kp : Int → Int), r2 = none ∧ I2 = (xsc (xsc (xsc (xsc (xsc I 101 (xup (xup (I 101) (18 : Int) tp) (21 : Int) (I 101 (21 : Int)))) 111 (I 111)) 113 kp) 120 (pftn (I 103) (I 105) (I 106) (I 101 (23 : Int)) (I 111) (I 120) (I 101 (2 : Int) + 1).toNat)) 121 (pwtn (I 103) (I 105) (I 106) (I 101 (23 : Int)) (I 111) th (I 121) (I 101 (2 : Int) + 1).toNat)) ∧ L2 = (xsc (xsc L 109 K) 110 W) ∧ G2 = (gG D)) := by
  intro d hd
  obtain ⟨hS, hN, hrs, hR, ht⟩ := h
  refine w_250 (by omega) ?_
  have key : ∀ k : Nat, k ≤ (I 101 2 + 1).toNat → ∀ (tp : Int) (K : Int → Int64) (W : Int → Int64) (fo : Int) (rw_ : Int → Int) (x4 : XV) (x5 : XV) (x6 : XV), (∀ j, (j < 10 ∨ 26 ≤ j) → rw_ j = I 111 j) → xR d 250 es_250 7 [xr (some 101), xi th, xi (I 101 21), xi (k : Int), x4, x5, x6] [] (xsc (xsc (xsc (xsc (xsc I 101 (xup (xup (I 101) (18 : Int) tp) (21 : Int) fo)) 111 rw_) 113 (xcp (I 111) (I 113) 10 0 16)) 120 (pftn (I 103) (I 105) (I 106) (I 101 23) (I 111) (I 120) k)) 121 (pwtn (I 103) (I 105) (I 106) (I 101 23) (I 111) th (I 121) k)) (xsc (xsc L 109 K) 110 W) (gG D) 0 0 (fun r2 I2 L2 G2 => ∃ (tp : Int) (K : Int → Int64) (W : Int → Int64) (kp : Int → Int), r2 = none ∧ I2 = (xsc (xsc (xsc (xsc (xsc I 101 (xup (xup (I 101) (18 : Int) tp) (21 : Int) (I 101 (21 : Int)))) 111 (I 111)) 113 kp) 120 (pftn (I 103) (I 105) (I 106) (I 101 (23 : Int)) (I 111) (I 120) (I 101 (2 : Int) + 1).toNat)) 121 (pwtn (I 103) (I 105) (I 106) (I 101 (23 : Int)) (I 111) th (I 121) (I 101 (2 : Int) + 1).toNat)) ∧ L2 = (xsc (xsc L 109 K) 110 W) ∧ G2 = gG D) := by
    refine xfor ?_ ?_
    · intro tp K W fo rw_ x4 x5 x6 hy
      refine b_250 (by omega) ?_
      repeat' first | (with_reducible intro _) | (with_reducible refine And.intro ?_ ?_)
      all_goals first | omega | assumption | skip
      rw [lays_back hy]
      exact ⟨_, _, _, _, rfl, rfl, rfl, rfl⟩
    · intro k hk ih tp K W fo rw_ x4 x5 x6 hy
      refine b_250 (by omega) ?_
      repeat' first | (with_reducible intro _) | (with_reducible refine And.intro ?_ ?_)
      all_goals first | omega | assumption | skip
      rw [pbeg_congr hy]
      exact lp_250n (by omega) hS hN (hR _ (by omega) (by omega)) (by omega) ht _ (fun tp K W x4 x5 x6 => ih _ _ _ _ _ _ _ _ (fun j hj => prn_out hS (by omega) hj))
  exact xR_memc (key 0 (Nat.zero_le _) (I 101 18) (L 109) (L 110) (I 101 21) (I 111) _ _ _ (fun _ _ => rfl)) (by (funext i; by_cases h101 : i = 101; (subst h101; first | rfl | exact (xcp_zero _ _ _ _).symm | exact (xup_self _ _).symm | exact (xup_self2 _ _ _).symm | exact (xup_self3 _ _ _ _).symm | exact xup_self _ _); by_cases h111 : i = 111; (subst h111; first | rfl | exact (xcp_zero _ _ _ _).symm | exact (xup_self _ _).symm | exact (xup_self2 _ _ _).symm | exact (xup_self3 _ _ _ _).symm | exact xup_self _ _); by_cases h113 : i = 113; (subst h113; first | rfl | exact (xcp_zero _ _ _ _).symm | exact (xup_self _ _).symm | exact (xup_self2 _ _ _).symm | exact (xup_self3 _ _ _ _).symm | exact xup_self _ _); by_cases h120 : i = 120; (subst h120; first | rfl | exact (xcp_zero _ _ _ _).symm | exact (xup_self _ _).symm | exact (xup_self2 _ _ _).symm | exact (xup_self3 _ _ _ _).symm | exact xup_self _ _); by_cases h121 : i = 121; (subst h121; first | rfl | exact (xcp_zero _ _ _ _).symm | exact (xup_self _ _).symm | exact (xup_self2 _ _ _).symm | exact (xup_self3 _ _ _ _).symm | exact xup_self _ _); first | rfl | simp only [xsc_ne _ _ h101, xsc_ne _ _ h111, xsc_ne _ _ h113, xsc_ne _ _ h120, xsc_ne _ _ h121])) (by (funext i; by_cases h109 : i = 109; (subst h109; first | rfl | exact (xcp_zero _ _ _ _).symm | exact (xup_self _ _).symm | exact (xup_self2 _ _ _).symm | exact (xup_self3 _ _ _ _).symm | exact xup_self _ _); by_cases h110 : i = 110; (subst h110; first | rfl | exact (xcp_zero _ _ _ _).symm | exact (xup_self _ _).symm | exact (xup_self2 _ _ _).symm | exact (xup_self3 _ _ _ _).symm | exact xup_self _ _); first | rfl | simp only [xsc_ne _ _ h109, xsc_ne _ _ h110]))
theorem pftn_01 {sg cl cn : Int → Int} {kk : Int} {a f : Int → Int} (h : ∀ j, f j = 0 ∨ f j = 1) : ∀ (n : Nat) (j : Int), pftn sg cl cn kk a f n j = 0 ∨ pftn sg cl cn kk a f n j = 1 := by
  intro n
  induction n with
  | zero => exact h
  | succ n ih =>
    intro j
    unfold pftn xup
    split
    · exact xb_01 _
    · exact ih j
theorem pwtn_rg {sg cl cn : Int → Int} {kk : Int} {a w : Int → Int} {th : Int} (hS : SO a) (ht : 0 ≤ th ∧ th ≤ 60) (h : ∀ j, -1 ≤ w j ∧ w j < 5) : ∀ (n : Nat) (j : Int), -1 ≤ pwtn sg cl cn kk a th w n j ∧ pwtn sg cl cn kk a th w n j < 5 := by
  intro n
  induction n with
  | zero => exact h
  | succ n ih =>
    intro j
    unfold pwtn xcp
    split
    · have h1 := SO_prn (sg := sg) (cl := cl) (cn := cn) (kk := kk) hS (r := (n : Int)) (n := (th + 1).toNat) (by omega)
      have h2 := h1.w (s := j - 10 * (n : Int)) (by omega) (by omega)
      have h3 := h1.g
      omega
    · exact ih j
def prd (F : Int → Int) (rs : Int) : Nat → Int × Int
  | 0 => (0, -2)
  | j + 1 => if F (rs - (j : Int)) = 0 then prd F rs j else ((prd F rs j).1 + 1, rs - (j : Int) - 1)
def qruled (F : Int → Int) (rs what : Int) : Int := if what = 0 then (prd F rs (rs + 1).toNat).1 else (prd F rs (rs + 1).toNat).2
def pal1 (F T : Int → Int) (s x : Int) : Nat → Int
  | 0 => 0
  | b + 1 => pal1 F T s x b + (if ¬ F (b : Int) = 0 ∧ T (10 * x + s) = T (10 * (b : Int) + s) then 1 else 0)
def paln (F T : Int → Int) (s rs x : Int) : Int := if F x = 0 then 0 else pal1 F T s x (rs + 1).toNat
def palk (F T : Int → Int) (s rs : Int) : Nat → Int
  | 0 => 0
  | x + 1 => if palk F T s rs x < paln F T s rs (x : Int) then paln F T s rs (x : Int) else palk F T s rs x
def palike (F T : Int → Int) (s rs : Int) : Int := palk F T s rs (rs + 1).toNat
theorem pal1_rg (F T : Int → Int) (s x : Int) : ∀ n : Nat, 0 ≤ pal1 F T s x n ∧ pal1 F T s x n ≤ (n : Int) := by
  intro n
  induction n with
  | zero => exact ⟨by show (0 : Int) ≤ 0; decide, by show (0 : Int) ≤ 0; decide⟩
  | succ n ih => unfold pal1; split <;> omega
theorem paln_rg (F T : Int → Int) (s x : Int) {rs : Int} (h : 0 ≤ rs ∧ rs ≤ 6) : 0 ≤ paln F T s rs x ∧ paln F T s rs x ≤ 7 := by
  unfold paln
  have := pal1_rg F T s x (rs + 1).toNat
  split <;> omega
theorem palk_rg (F T : Int → Int) (s : Int) {rs : Int} (h : 0 ≤ rs ∧ rs ≤ 6) : ∀ n : Nat, 0 ≤ palk F T s rs n ∧ palk F T s rs n ≤ 7 := by
  intro n
  induction n with
  | zero => exact ⟨by show (0 : Int) ≤ 0; decide, by show (0 : Int) ≤ 7; decide⟩
  | succ n ih =>
    have := paln_rg F T s (n : Int) h
    unfold palk
    split <;> omega
set_option maxRecDepth 8000 in
theorem sg_251_0 {d : Nat} {I : XI} {L : XL} {D : GD} {post : XQ}  {u1 : Int} (h : xR d 251 es_251 1 [xr (some 101), xi u1, xt 0, xt 0, xt 0] [xr (some 101)] I L (gG D) 0 0 post) : xR d 251 es_251 0 [xr (some 101), xi u1, xt 0, xt 0, xt 0] [] I L (gG D) 0 0 post := xW_R (fun k => Nat.beq k 1 || Nat.beq k 7 || Nat.beq k 13 || Nat.beq k 21) 1 _ _ _ _ _ _ _ _ _ _ _ _ h
set_option maxRecDepth 8000 in
theorem sg_251_2 {d : Nat} {I : XI} {L : XL} {D : GD} {post : XQ}  {u1 : Int} {w0 : Int} (h : ((-2147483648 ≤ w0 ∧ w0 ≤ 2147483647) ∧ ((w0 = 0 → post (some (xi (-3 : Int))) I L (gG D)) ∧ (¬ w0 = 0 → ((-2147483648 ≤ u1 ∧ u1 ≤ 2147483647) ∧ xR d 251 es_251 7 [xr (some 101), xi u1, xt 0, xt 0, xt 0] [xl (1 : Int64), xl (0 : Int64), xl (Int64.ofInt u1)] I L (gG D) 0 0 post))))) : xR d 251 es_251 2 [xr (some 101), xi u1, xt 0, xt 0, xt 0] [xi w0] I L (gG D) 0 0 post := xW_R (fun k => Nat.beq k 1 || Nat.beq k 7 || Nat.beq k 13 || Nat.beq k 21) 5 _ _ _ _ _ _ _ _ _ _ _ _ h
set_option maxRecDepth 8000 in
theorem sg_251_8 {d : Nat} {I : XI} {L : XL} {D : GD} {post : XQ}  {u1 : Int} {w0 : Int} (h : ((-2147483648 ≤ w0 ∧ w0 ≤ 2147483647) ∧ ((¬ w0 = 0 → xR d 251 es_251 13 [xr (some 101), xi u1, xt 0, xt 0, xt 0] [xi (0 : Int), xr (some 101)] I L (gG D) 0 0 post) ∧ (w0 = 0 → post (some (xi (-3 : Int))) I L (gG D))))) : xR d 251 es_251 8 [xr (some 101), xi u1, xt 0, xt 0, xt 0] [xi w0] I L (gG D) 0 0 post := xW_R (fun k => Nat.beq k 1 || Nat.beq k 7 || Nat.beq k 13 || Nat.beq k 21) 3 _ _ _ _ _ _ _ _ _ _ _ _ h
set_option maxRecDepth 8000 in
theorem sg_251_14 {d : Nat} {I : XI} {L : XL} {D : GD} {post : XQ}  {u1 : Int} (h : xR d 251 es_251 21 [xr (some 101), xi u1, xi (0 : Int), xi (-2 : Int), xi (I 101 (2 : Int))] [] I L (gG D) 0 0 post) : xR d 251 es_251 14 [xr (some 101), xi u1, xt 0, xt 0, xt 0] [] I L (gG D) 0 0 post := xW_R (fun k => Nat.beq k 1 || Nat.beq k 7 || Nat.beq k 13 || Nat.beq k 21) 7 _ _ _ _ _ _ _ _ _ _ _ _ h
set_option maxRecDepth 8000 in
theorem w_251 {d : Nat} {I : XI} {L : XL} {D : GD} {post : XQ}   {what : Int} (hd : 8 ≤ d) (h : (SO (I 111) ∧ (((¬ (I 111 (0 : Int) = 1) → post (some (xi (-3 : Int))) I L (gG D)) ∧ (I 111 (0 : Int) = 1 → (((-2147483648 ≤ what ∧ what ≤ 2147483647)) ∧ (((-2147483648 ≤ what ∧ what ≤ 2147483647) ∧ (-2147483648 ≤ (0 : Int) ∧ (0 : Int) ≤ 2147483647) ∧ (-2147483648 ≤ (1 : Int) ∧ (1 : Int) ≤ 2147483647)) ∧ ((((0 : Int) ≤ what ∧ what ≤ (1 : Int) → ((SO (I 111) ∧ NO (I 111) ∧ (0 ≤ I 101 (2 : Int) ∧ I 101 (2 : Int) ≤ 6) ∧ ROA (I 103) (I 105) (I 106) (I 101 (2 : Int)) ∧ (0 ≤ (0 : Int) ∧ (0 : Int) ≤ 60)) ∧ (∀ (e542 : Int) (e543 : Int → Int64) (e544 : Int → Int64) (e545 : Int → Int), xR d 251 es_251 21 [xr (some 101), xi what, xi (0 : Int), xi (-2 : Int), xi (I 101 (2 : Int))] [] (xsc (xsc (xsc (xsc (xsc I 101 (xup (xup (I 101) (18 : Int) e542) (21 : Int) (I 101 (21 : Int)))) 111 (I 111)) 113 e545) 120 (pftn (I 103) (I 105) (I 106) (I 101 (23 : Int)) (I 111) (I 120) (I 101 (2 : Int) + 1).toNat)) 121 (pwtn (I 103) (I 105) (I 106) (I 101 (23 : Int)) (I 111) (0 : Int) (I 121) (I 101 (2 : Int) + 1).toNat)) (xsc (xsc L 109 e543) 110 e544) (gG D) 0 0 post))) ∧ (¬ ((0 : Int) ≤ what ∧ what ≤ (1 : Int)) → post (some (xi (-3 : Int))) I L (gG D))))))))))) : xR d 251 es_251 0 [xr (some 101), xi what, xt 0, xt 0, xt 0] [] I L (gG D) 0 0 post := sg_251_0  ((xR_cF rfl rfl rfl (c_192 h.1) (by omega) (sg_251_2  ⟨(xb_rg _), ⟨fun q548 => (h.2.1 (xb_0 q548)), fun q549 => ⟨(h.2.2 (xb_n0 q549)).1, (xR_cF rfl rfl rfl (c_147 (h.2.2 (xb_n0 q549)).2.1) (by omega) (sg_251_8  ⟨(xb_rg _), ⟨fun q546 => (xR_cQ rfl rfl rfl (c_250 ((h.2.2 (xb_n0 q549)).2.2.1 (xb_n0 q546)).1) (by omega) (fun _ _ _ _ hx550 => by obtain ⟨e542, e543, e544, e545, rfl, rfl, rfl, rfl⟩ := hx550; exact (sg_251_14  (xR_memc (((h.2.2 (xb_n0 q549)).2.2.1 (xb_n0 q546)).2 e542 e543 e544 e545) (funext fun i => (xpt rfl (fun h121_ => (xpt rfl (fun h120_ => (xpt rfl (fun h113_ => (xpt rfl (fun h111_ => (xpt rfl (fun h101_ => (by simp only [xsc_ne _ _ h101_, xwr_ne _ _ _ h101_, xsc_ne _ _ h111_, xwr_ne _ _ _ h111_, xsc_ne _ _ h113_, xwr_ne _ _ _ h113_, xsc_ne _ _ h120_, xwr_ne _ _ _ h120_, xsc_ne _ _ h121_, xwr_ne _ _ _ h121_])))))))))))) rfl)))), fun q547 => ((h.2.2 (xb_n0 q549)).2.2.2 (xb_0 q547))⟩⟩))⟩⟩⟩)))
set_option maxRecDepth 8000 in
theorem sg_251_21 {d : Nat} {I : XI} {L : XL} {D : GD} {post : XQ}  {u1 : Int} {u2 : Int} {u3 : Int} {u4 : Int} (h : ((-2147483648 ≤ u4 ∧ u4 ≤ 2147483647) ∧ ((u4 < 0 → ((-2147483648 ≤ u1 ∧ u1 ≤ 2147483647) ∧ ((¬ u1 = 0 → post (some (xi u3)) I L (gG D)) ∧ (u1 = 0 → post (some (xi u2)) I L (gG D))))) ∧ (0 ≤ u4 → ((0 ≤ u4 ∧ u4 < (7 : Int)) ∧ ((-2147483648 ≤ (I 120 u4) ∧ (I 120 u4) ≤ 2147483647) ∧ ((¬ (I 120 u4) = 0 → xR d 251 es_251 21 [xr (some 101), xi u1, xi (u2 + (1 : Int)), xi (u4 - (1 : Int)), xi (u4 + (-1 : Int))] [] I L (gG D) 0 0 post) ∧ ((I 120 u4) = 0 → xR d 251 es_251 21 [xr (some 101), xi u1, xi u2, xi u3, xi (u4 + (-1 : Int))] [] I L (gG D) 0 0 post)))))))) : xR d 251 es_251 21 [xr (some 101), xi u1, xi u2, xi u3, xi u4] [] I L (gG D) 0 0 post := xW_R (fun k => Nat.beq k 1 || Nat.beq k 7 || Nat.beq k 13 || Nat.beq k 21) 14 _ _ _ _ _ _ _ _ _ _ _ _ h
set_option maxRecDepth 8000 in
theorem b_251 {d : Nat} {I : XI} {L : XL} {D : GD} {post : XQ} {tp fo : Int} {K W : Int → Int64} {rw_ kp ft wt : Int → Int}  {what : Int} {mn : Int} {fi : Int} {kq : Int} (hd : 0 ≤ d) (h : (((-2147483648 ≤ kq ∧ kq ≤ 2147483647)) ∧ ((kq < 0 → (((-2147483648 ≤ what ∧ what ≤ 2147483647)) ∧ ((¬ what = 0 → post (some (xi fi)) (xsc (xsc (xsc (xsc (xsc I 101 (xup (xup (I 101) (18 : Int) tp) (21 : Int) fo)) 111 rw_) 113 kp) 120 ft) 121 wt) (xsc (xsc L 109 K) 110 W) (gG D)) ∧ (what = 0 → post (some (xi mn)) (xsc (xsc (xsc (xsc (xsc I 101 (xup (xup (I 101) (18 : Int) tp) (21 : Int) fo)) 111 rw_) 113 kp) 120 ft) 121 wt) (xsc (xsc L 109 K) 110 W) (gG D))))) ∧ (0 ≤ kq → (((0 ≤ kq ∧ kq < (7 : Int))) ∧ (((-2147483648 ≤ (ft kq) ∧ (ft kq) ≤ 2147483647)) ∧ ((¬ (ft kq) = 0 → xR d 251 es_251 21 [xr (some 101), xi what, xi (mn + (1 : Int)), xi (kq - (1 : Int)), xi (kq + (-1 : Int))] [] (xsc (xsc (xsc (xsc (xsc I 101 (xup (xup (I 101) (18 : Int) tp) (21 : Int) fo)) 111 rw_) 113 kp) 120 ft) 121 wt) (xsc (xsc L 109 K) 110 W) (gG D) 0 0 post) ∧ ((ft kq) = 0 → xR d 251 es_251 21 [xr (some 101), xi what, xi mn, xi fi, xi (kq + (-1 : Int))] [] (xsc (xsc (xsc (xsc (xsc I 101 (xup (xup (I 101) (18 : Int) tp) (21 : Int) fo)) 111 rw_) 113 kp) 120 ft) 121 wt) (xsc (xsc L 109 K) 110 W) (gG D) 0 0 post)))))))) : xR d 251 es_251 21 [xr (some 101), xi what, xi mn, xi fi, xi kq] [] (xsc (xsc (xsc (xsc (xsc I 101 (xup (xup (I 101) (18 : Int) tp) (21 : Int) fo)) 111 rw_) 113 kp) 120 ft) 121 wt) (xsc (xsc L 109 K) 110 W) (gG D) 0 0 post := sg_251_21  (⟨h.1, ⟨fun q556 => ⟨(h.2.1 q556).1, ⟨fun q552 => (xpost ((h.2.1 q556).2.1 q552) (funext fun i => (xpt rfl (fun h121_ => (xpt rfl (fun h120_ => (xpt rfl (fun h113_ => (xpt rfl (fun h111_ => (xpt rfl (fun h101_ => (by simp only [xsc_ne _ _ h101_, xwr_ne _ _ _ h101_, xsc_ne _ _ h111_, xwr_ne _ _ _ h111_, xsc_ne _ _ h113_, xwr_ne _ _ _ h113_, xsc_ne _ _ h120_, xwr_ne _ _ _ h120_, xsc_ne _ _ h121_, xwr_ne _ _ _ h121_])))))))))))) rfl), fun q553 => (xpost ((h.2.1 q556).2.2 q553) (funext fun i => (xpt rfl (fun h121_ => (xpt rfl (fun h120_ => (xpt rfl (fun h113_ => (xpt rfl (fun h111_ => (xpt rfl (fun h101_ => (by simp only [xsc_ne _ _ h101_, xwr_ne _ _ _ h101_, xsc_ne _ _ h111_, xwr_ne _ _ _ h111_, xsc_ne _ _ h113_, xwr_ne _ _ _ h113_, xsc_ne _ _ h120_, xwr_ne _ _ _ h120_, xsc_ne _ _ h121_, xwr_ne _ _ _ h121_])))))))))))) rfl)⟩⟩, fun q557 => ⟨(h.2.2 q557).1, ⟨(h.2.2 q557).2.1, ⟨fun q554 => (xR_memc ((h.2.2 q557).2.2.1 q554) (funext fun i => (xpt rfl (fun h121_ => (xpt rfl (fun h120_ => (xpt rfl (fun h113_ => (xpt rfl (fun h111_ => (xpt rfl (fun h101_ => (by simp only [xsc_ne _ _ h101_, xwr_ne _ _ _ h101_, xsc_ne _ _ h111_, xwr_ne _ _ _ h111_, xsc_ne _ _ h113_, xwr_ne _ _ _ h113_, xsc_ne _ _ h120_, xwr_ne _ _ _ h120_, xsc_ne _ _ h121_, xwr_ne _ _ _ h121_])))))))))))) rfl), fun q555 => (xR_memc ((h.2.2 q557).2.2.2 q555) (funext fun i => (xpt rfl (fun h121_ => (xpt rfl (fun h120_ => (xpt rfl (fun h113_ => (xpt rfl (fun h111_ => (xpt rfl (fun h101_ => (by simp only [xsc_ne _ _ h101_, xwr_ne _ _ _ h101_, xsc_ne _ _ h111_, xwr_ne _ _ _ h111_, xsc_ne _ _ h113_, xwr_ne _ _ _ h113_, xsc_ne _ _ h120_, xwr_ne _ _ _ h120_, xsc_ne _ _ h121_, xwr_ne _ _ _ h121_])))))))))))) rfl)⟩⟩⟩⟩⟩)
theorem c_251 {I : XI} {L : XL} {D : GD}   {what : Int} (h : (SO (I 111) ∧ NO (I 111) ∧ (0 ≤ I 101 (2 : Int) ∧ I 101 (2 : Int) ≤ 6) ∧ ROA (I 103) (I 105) (I 106) (I 101 (2 : Int)) ∧ (∀ j, (I 120) j = 0 ∨ (I 120) j = 1) ∧ (∀ j, -1 ≤ (I 121) j ∧ (I 121) j < 5) ∧ (-2147483648 ≤ what ∧ what ≤ 2147483647))) : xM 8 251 [xr (some 101), xi what] I L (gG D) (0, 0) (fun r2 I2 L2 G2 => ∃ (tp : Int) (K : Int → Int64) (W : Int → Int64) (kp : Int → Int), r2 = (some (xi (if I 111 (0 : Int) = 1 ∧ (0 ≤ what ∧ what ≤ 1) then qruled (pftn (I 103) (I 105) (I 106) (I 101 (23 : Int)) (I 111) (I 120) (I 101 (2 : Int) + 1).toNat) (I 101 (2 : Int)) what else -3))) ∧ I2 = (xsc (xsc (xsc (xsc (xsc I 101 (xup (xup (I 101) (18 : Int) (if I 111 (0 : Int) = 1 ∧ (0 ≤ what ∧ what ≤ 1) then tp else I 101 (18 : Int))) (21 : Int) (if I 111 (0 : Int) = 1 ∧ (0 ≤ what ∧ what ≤ 1) then I 101 (21 : Int) else I 101 (21 : Int)))) 111 (if I 111 (0 : Int) = 1 ∧ (0 ≤ what ∧ what ≤ 1) then (I 111) else (I 111))) 113 (if I 111 (0 : Int) = 1 ∧ (0 ≤ what ∧ what ≤ 1) then kp else (I 113))) 120 (if I 111 (0 : Int) = 1 ∧ (0 ≤ what ∧ what ≤ 1) then (pftn (I 103) (I 105) (I 106) (I 101 (23 : Int)) (I 111) (I 120) (I 101 (2 : Int) + 1).toNat) else (I 120))) 121 (if I 111 (0 : Int) = 1 ∧ (0 ≤ what ∧ what ≤ 1) then (pwtn (I 103) (I 105) (I 106) (I 101 (23 : Int)) (I 111) 0 (I 121) (I 101 (2 : Int) + 1).toNat) else (I 121))) ∧ L2 = (xsc (xsc L 109 (if I 111 (0 : Int) = 1 ∧ (0 ≤ what ∧ what ≤ 1) then K else (L 109))) 110 (if I 111 (0 : Int) = 1 ∧ (0 ≤ what ∧ what ≤ 1) then W else (L 110))) ∧ G2 = (gG D)) := by
  intro d hd
  obtain ⟨hS, hN, hrs, hR, hF, hT, h1⟩ := h
  have hf := hS.f
  refine w_251 (by omega) ?_
  by_cases hc : I 111 (0 : Int) = 1 ∧ (0 ≤ what ∧ what ≤ 1)
  · simp only [if_pos hc]
    have hF2 := pftn_01 (sg := I 103) (cl := I 105) (cn := I 106) (kk := I 101 23) (a := I 111) hF (I 101 2 + 1).toNat
    have key2 : ∀ (tp : Int) (K W : Int → Int64) (kp : Int → Int), xR d 251 es_251 21 [xr (some 101), xi what, xi 0, xi (-2), xi (I 101 2)] [] (xsc (xsc (xsc (xsc (xsc I 101 (xup (xup (I 101) (18 : Int) tp) (21 : Int) (I 101 21))) 111 (I 111)) 113 kp) 120 (pftn (I 103) (I 105) (I 106) (I 101 (23 : Int)) (I 111) (I 120) (I 101 (2 : Int) + 1).toNat)) 121 (pwtn (I 103) (I 105) (I 106) (I 101 (23 : Int)) (I 111) 0 (I 121) (I 101 (2 : Int) + 1).toNat)) (xsc (xsc L 109 K) 110 W) (gG D) 0 0 (fun r2 I2 L2 G2 => ∃ (tp : Int) (K : Int → Int64) (W : Int → Int64) (kp : Int → Int), r2 = some (xi (qruled (pftn (I 103) (I 105) (I 106) (I 101 (23 : Int)) (I 111) (I 120) (I 101 (2 : Int) + 1).toNat) (I 101 2) what)) ∧ I2 = (xsc (xsc (xsc (xsc (xsc I 101 (xup (xup (I 101) (18 : Int) tp) (21 : Int) (I 101 (21 : Int)))) 111 (I 111)) 113 kp) 120 (pftn (I 103) (I 105) (I 106) (I 101 (23 : Int)) (I 111) (I 120) (I 101 (2 : Int) + 1).toNat)) 121 (pwtn (I 103) (I 105) (I 106) (I 101 (23 : Int)) (I 111) 0 (I 121) (I 101 (2 : Int) + 1).toNat)) ∧ L2 = (xsc (xsc L 109 K) 110 W) ∧ G2 = gG D) := by
      intro tp K W kp
      have key : ∀ k : Nat, k ≤ (I 101 2 + 1).toNat → xR d 251 es_251 21 [xr (some 101), xi what, xi (prd (pftn (I 103) (I 105) (I 106) (I 101 (23 : Int)) (I 111) (I 120) (I 101 (2 : Int) + 1).toNat) (I 101 2) k).1, xi (prd (pftn (I 103) (I 105) (I 106) (I 101 (23 : Int)) (I 111) (I 120) (I 101 (2 : Int) + 1).toNat) (I 101 2) k).2, xi (I 101 2 - (k : Int))] [] (xsc (xsc (xsc (xsc (xsc I 101 (xup (xup (I 101) (18 : Int) tp) (21 : Int) (I 101 (21 : Int)))) 111 (I 111)) 113 kp) 120 (pftn (I 103) (I 105) (I 106) (I 101 (23 : Int)) (I 111) (I 120) (I 101 (2 : Int) + 1).toNat)) 121 (pwtn (I 103) (I 105) (I 106) (I 101 (23 : Int)) (I 111) 0 (I 121) (I 101 (2 : Int) + 1).toNat)) (xsc (xsc L 109 K) 110 W) (gG D) 0 0 (fun r2 I2 L2 G2 => ∃ (tp : Int) (K : Int → Int64) (W : Int → Int64) (kp : Int → Int), r2 = some (xi (qruled (pftn (I 103) (I 105) (I 106) (I 101 (23 : Int)) (I 111) (I 120) (I 101 (2 : Int) + 1).toNat) (I 101 2) what)) ∧ I2 = (xsc (xsc (xsc (xsc (xsc I 101 (xup (xup (I 101) (18 : Int) tp) (21 : Int) (I 101 (21 : Int)))) 111 (I 111)) 113 kp) 120 (pftn (I 103) (I 105) (I 106) (I 101 (23 : Int)) (I 111) (I 120) (I 101 (2 : Int) + 1).toNat)) 121 (pwtn (I 103) (I 105) (I 106) (I 101 (23 : Int)) (I 111) 0 (I 121) (I 101 (2 : Int) + 1).toNat)) ∧ L2 = (xsc (xsc L 109 K) 110 W) ∧ G2 = gG D) := by
        refine xfor ?_ ?_
        · refine b_251 (by omega) ?_
          repeat' first | (with_reducible intro _) | (with_reducible refine And.intro ?_ ?_)
          all_goals first | omega | assumption | skip
          all_goals exact ⟨_, _, _, _, (by unfold qruled; (repeat' split) <;> first | rfl | omega), rfl, rfl, rfl⟩
        · intro k hk ih 
          have hF3 := hF2 (I 101 2 - (k : Int))
          have e : prd (pftn (I 103) (I 105) (I 106) (I 101 (23 : Int)) (I 111) (I 120) (I 101 (2 : Int) + 1).toNat) (I 101 2) (k + 1) = if (pftn (I 103) (I 105) (I 106) (I 101 (23 : Int)) (I 111) (I 120) (I 101 (2 : Int) + 1).toNat) (I 101 2 - (k : Int)) = 0 then prd (pftn (I 103) (I 105) (I 106) (I 101 (23 : Int)) (I 111) (I 120) (I 101 (2 : Int) + 1).toNat) (I 101 2) k else ((prd (pftn (I 103) (I 105) (I 106) (I 101 (23 : Int)) (I 111) (I 120) (I 101 (2 : Int) + 1).toNat) (I 101 2) k).1 + 1, I 101 2 - (k : Int) - 1) := rfl
          rw [show I 101 2 - ((k + 1 : Nat) : Int) = I 101 2 - (k : Int) + -1 by omega] at ih
          refine b_251 (by omega) ?_
          repeat' first | (with_reducible intro _) | (with_reducible refine And.intro ?_ ?_)
          all_goals first | omega | assumption | skip
          all_goals first | (rw [if_pos (by assumption)] at e; rw [e] at ih; exact ih) | (rw [if_neg (by assumption)] at e; rw [e] at ih; exact ih)
      have := key 0 (Nat.zero_le _)
      rw [show I 101 2 - ((0 : Nat) : Int) = I 101 2 by omega] at this
      exact this
    repeat' first | (with_reducible intro _) | (with_reducible refine And.intro ?_ ?_)
    all_goals first | omega | assumption | exact ⟨hS, hN, hrs, hR, by omega⟩ | exact ⟨_, _, _, _, (by first | rfl | trivial), (by first | rfl | trivial), (by first | rfl | trivial), (by first | rfl | trivial)⟩ | skip
    exact key2 _ _ _ _
  · simp only [if_neg hc]
    repeat' first | (with_reducible intro _) | (with_reducible refine And.intro ?_ ?_)
    all_goals first | omega | assumption | exact ⟨hS, hN, hrs, hR, by omega⟩ | (exact ⟨I 101 18, L 109, L 110, I 113, (by first | rfl | trivial), (by (funext i; by_cases h101 : i = 101; (subst h101; first | rfl | exact (xcp_zero _ _ _ _).symm | exact (xup_self _ _).symm | exact (xup_self2 _ _ _).symm | exact (xup_self3 _ _ _ _).symm | exact xup_self _ _); by_cases h111 : i = 111; (subst h111; first | rfl | exact (xcp_zero _ _ _ _).symm | exact (xup_self _ _).symm | exact (xup_self2 _ _ _).symm | exact (xup_self3 _ _ _ _).symm | exact xup_self _ _); by_cases h113 : i = 113; (subst h113; first | rfl | exact (xcp_zero _ _ _ _).symm | exact (xup_self _ _).symm | exact (xup_self2 _ _ _).symm | exact (xup_self3 _ _ _ _).symm | exact xup_self _ _); by_cases h120 : i = 120; (subst h120; first | rfl | exact (xcp_zero _ _ _ _).symm | exact (xup_self _ _).symm | exact (xup_self2 _ _ _).symm | exact (xup_self3 _ _ _ _).symm | exact xup_self _ _); by_cases h121 : i = 121; (subst h121; first | rfl | exact (xcp_zero _ _ _ _).symm | exact (xup_self _ _).symm | exact (xup_self2 _ _ _).symm | exact (xup_self3 _ _ _ _).symm | exact xup_self _ _); first | rfl | simp only [xsc_ne _ _ h101, xsc_ne _ _ h111, xsc_ne _ _ h113, xsc_ne _ _ h120, xsc_ne _ _ h121])), (by (funext i; by_cases h109 : i = 109; (subst h109; first | rfl | exact (xcp_zero _ _ _ _).symm | exact (xup_self _ _).symm | exact (xup_self2 _ _ _).symm | exact (xup_self3 _ _ _ _).symm | exact xup_self _ _); by_cases h110 : i = 110; (subst h110; first | rfl | exact (xcp_zero _ _ _ _).symm | exact (xup_self _ _).symm | exact (xup_self2 _ _ _).symm | exact (xup_self3 _ _ _ _).symm | exact xup_self _ _); first | rfl | simp only [xsc_ne _ _ h109, xsc_ne _ _ h110])), (by first | rfl | trivial)⟩) | skip
