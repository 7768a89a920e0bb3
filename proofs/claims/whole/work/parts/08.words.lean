/-! the words of the tables that the steps need, all of them kept by what warms the machine -/
def lw_g : List Cond := lw_tbl.filter goodWord
theorem lw_g_of {i : Nat} {w : Cond} (h : lw_tbl[i]? = some w) (hg : goodWord w = true) : w ∈ lw_g := List.mem_filter.mpr ⟨List.mem_of_getElem? h, hg⟩
theorem lw_g_good : GoodIn lw_g lw_g := fun w h => ⟨h, good_of_word (List.mem_filter.mp h).2⟩
def uW (ci k : Nat) : Nat := ((([[418, 420, 422, 424, 426], [239, 241, 243, 245, 247, 249, 251, 253, 255, 257], [486, 488, 490, 492, 494, 496, 498, 500, 502], [791, 793], [394, 396, 398, 400, 402], [448, 450, 452, 454, 456, 458, 460, 462, 464], [370, 372, 374, 376, 378], [320, 322, 324, 326, 328, 330, 332, 334], [288, 290, 292, 294, 296], [171, 173, 175, 177, 179, 181, 183, 185, 187, 189, 191], [348, 350, 352], [518, 520, 522, 524, 526, 528, 530, 532, 534, 536, 538, 540, 542], [1278, 1280, 1282, 1284, 1286, 1288, 1290, 1292, 1294, 1296, 1298, 1300, 1302, 1304, 1306, 1308, 1310, 1312, 1314, 1316, 1318, 1320, 1322, 1324, 1326, 1328, 1330, 1332, 1334, 1336, 1338, 1340, 1342, 1344, 1346, 1348, 1350, 1352, 1354, 1356, 1358, 1360, 1362]] : List (List Nat)).getD ci []).getD k 0)
theorem uW_ok : (List.range 13).all (fun ci => (List.range (xNf ci)).all (fun k => decide (lw_tbl[uW ci k]? = some (u_lay (cn ci) (xT ci) k)))) = true := by decide +kernel
theorem u_in {ci : Nat} (hc : ci < 13) : ∀ w ∈ u_ws (cn ci) (xT ci) (xNf ci), w ∈ lw_g := by
  intro w hw
  obtain ⟨k, hk, rfl⟩ := List.mem_map.mp hw
  have h := List.all_eq_true.mp (List.all_eq_true.mp uW_ok ci (List.mem_range.mpr hc)) k hk
  refine lw_g_of (of_decide_eq_true h) ?_
  unfold u_lay
  split <;> rfl
def iW (ci : Nat) : Nat × Nat := ([(407, 127), (203, 122), (468, 129), (770, 137), (384, 126), (431, 128), (357, 125), (197, 121), (261, 123), (149, 120), (340, 124), (141, 119), (1230, 130)] : List (Nat × Nat)).getD ci (0, 0)
theorem iW_ok : (List.range 13).all (fun ci => decide (lw_tbl[(iW ci).1]? = some (.instantiable (cn ci) (xNf ci))) && decide (lw_tbl[(iW ci).2]? = some (.initialized (cn ci)))) = true := by decide +kernel
theorem iW_in {ci : Nat} (hc : ci < 13) : Cond.instantiable (cn ci) (xNf ci) ∈ lw_g ∧ Cond.initialized (cn ci) ∈ lw_g := by
  have h := List.all_eq_true.mp iW_ok ci (List.mem_range.mpr hc)
  simp only [Bool.and_eq_true, decide_eq_true_eq] at h
  exact ⟨lw_g_of h.1 rfl, lw_g_of h.2 rfl⟩
theorem fT_in {j : Nat} {q : Nat × Nat × Nat × Nat × Nat} (h : fT[j]? = some q) : fTw q ∈ lw_g ∧ q.2.2.2.1 < xNf q.2.2.1 ∧ q.2.2.1 < 13 := by
  have h1 := List.all_eq_true.mp fT_ok q (List.mem_of_getElem? h)
  simp only [Bool.and_eq_true, decide_eq_true_eq] at h1
  exact ⟨lw_g_of h1.1.1 rfl, h1.1.2, h1.2⟩
theorem mT_in {j : Nat} {q : Nat × Nat × Nat × Nat × Nat} (h : mT[j]? = some q) (hn : q.2.2.2.2 = 0) : Cond.methodLink (cn q.1) q.2.1 (mTy q.2.2.1) ∈ lw_g := by
  have h1 := List.all_eq_true.mp mT_ok q (List.mem_of_getElem? h)
  simp only [decide_eq_true_eq] at h1
  have e : mTw q = .methodLink (cn q.1) q.2.1 (mTy q.2.2.1) := by unfold mTw; rw [if_neg (by rw [hn]; decide)]
  rw [e] at h1
  exact lw_g_of h1 rfl
theorem kT_in {j : Nat} {q : Nat × Nat × Int × Nat × Nat} (h : kT[j]? = some q) : kTw q ∈ lw_g := by
  have h1 := List.all_eq_true.mp kT_ok q (List.mem_of_getElem? h)
  simp only [decide_eq_true_eq] at h1
  refine lw_g_of h1 ?_
  unfold kTw
  split <;> rfl
theorem cT_in {j : Nat} {q : Nat × Nat × Nat × Nat} (h : cT[j]? = some q) : Cond.classLink (cn q.1) q.2.1 (cn q.2.2.1) ∈ lw_g := by
  have h1 := List.all_eq_true.mp cT_ok q (List.mem_of_getElem? h)
  simp only [decide_eq_true_eq] at h1
  exact lw_g_of h1 rfl
theorem mc_all : ∀ m, m < 264 → lw_tbl[(mW m).1]? = some (Cond.code (mY m) (mC m) (mL m) (mR m)) := by
  intro m hm
  have key : ∀ ms : List Nat, ms.map (fun m => lw_tbl[(mW m).1]?) = ms.map (fun m => some (Cond.code (mY m) (mC m) (mL m) (mR m))) → m ∈ ms → lw_tbl[(mW m).1]? = some (Cond.code (mY m) (mC m) (mL m) (mR m)) := fun ms h hi => (List.map_inj_left.mp h) m hi
  by_cases h0 : m < 16
  · exact key _ mc_ok_0 (by simp; omega)
  by_cases h1 : m < 32
  · exact key _ mc_ok_1 (by simp; omega)
  by_cases h2 : m < 48
  · exact key _ mc_ok_2 (by simp; omega)
  by_cases h3 : m < 64
  · exact key _ mc_ok_3 (by simp; omega)
  by_cases h4 : m < 80
  · exact key _ mc_ok_4 (by simp; omega)
  by_cases h5 : m < 96
  · exact key _ mc_ok_5 (by simp; omega)
  by_cases h6 : m < 112
  · exact key _ mc_ok_6 (by simp; omega)
  by_cases h7 : m < 128
  · exact key _ mc_ok_7 (by simp; omega)
  by_cases h8 : m < 144
  · exact key _ mc_ok_8 (by simp; omega)
  by_cases h9 : m < 160
  · exact key _ mc_ok_9 (by simp; omega)
  by_cases h10 : m < 176
  · exact key _ mc_ok_10 (by simp; omega)
  by_cases h11 : m < 192
  · exact key _ mc_ok_11 (by simp; omega)
  by_cases h12 : m < 208
  · exact key _ mc_ok_12 (by simp; omega)
  by_cases h13 : m < 224
  · exact key _ mc_ok_13 (by simp; omega)
  by_cases h14 : m < 240
  · exact key _ mc_ok_14 (by simp; omega)
  by_cases h15 : m < 256
  · exact key _ mc_ok_15 (by simp; omega)
  by_cases h16 : m < 264
  · exact key _ mc_ok_16 (by simp; omega)
  omega
theorem mW_okA : ∀ m, m < 264 → mWok m = true := by
  intro m hm
  have key : ∀ a b, ((List.range b).drop a).all mWok = true → a ≤ m → m < b → mWok m = true := by
    intro a b h h1 h2
    refine List.all_eq_true.mp h m ?_
    have : ((List.range b).drop a)[m - a]? = some m := by
      rw [List.getElem?_drop, List.getElem?_range (by omega)]
      congr 1
      omega
    exact List.mem_of_getElem? this
  by_cases h0 : m < 40
  · exact key 0 40 mW_ok_0 (by omega) h0
  by_cases h1 : m < 80
  · exact key 40 80 mW_ok_1 (by omega) h1
  by_cases h2 : m < 120
  · exact key 80 120 mW_ok_2 (by omega) h2
  by_cases h3 : m < 160
  · exact key 120 160 mW_ok_3 (by omega) h3
  by_cases h4 : m < 200
  · exact key 160 200 mW_ok_4 (by omega) h4
  by_cases h5 : m < 240
  · exact key 200 240 mW_ok_5 (by omega) h5
  by_cases h6 : m < 264
  · exact key 240 264 mW_ok_6 (by omega) h6
  omega
theorem mE_at0 : (List.range 265).all (fun m => decide (pcO (mE m) 0 = some 0)) = true := by decide +kernel
def kdOf (t : FieldType) : Nat := match t with
  | .int => 0
  | .boolean => 1
  | .long => 2
  | .object _ => 3
  | .array _ => 3
  | _ => 9
theorem kd_ok : (List.range 13).all (fun ci => (List.range (xNf ci)).all (fun k => decide (kdOf (xTy ci k) = xKd ci k))) = true := by decide +kernel
theorem kd_at {ci k : Nat} (hc : ci < 13) (hk : k < xNf ci) : kdOf (xTy ci k) = xKd ci k := of_decide_eq_true (List.all_eq_true.mp (List.all_eq_true.mp kd_ok ci (List.mem_range.mpr hc)) k (List.mem_range.mpr hk))
theorem xTy_ok {ci : Nat} (hc : ci < 13) : ∀ k, k < xNf ci → parseFieldDescriptor (xT ci k).2.2.1 = some (xTy ci k) := by
  match ci, hc with
  | 0, _ => exact tyX0_ok
  | 1, _ => exact tyX1_ok
  | 2, _ => exact tyX2_ok
  | 3, _ => exact tyX3_ok
  | 4, _ => exact tyX4_ok
  | 5, _ => exact tyX5_ok
  | 6, _ => exact tyX6_ok
  | 7, _ => exact tyX7_ok
  | 8, _ => exact tyX8_ok
  | 9, _ => exact tyX9_ok
  | 10, _ => exact tyX10_ok
  | 11, _ => exact tyX11_ok
  | 12, _ => exact tyX12_ok
  | k + 13, h => exact absurd h (by omega)
theorem xnm_ok {ci : Nat} (hc : ci < 13) : ∀ a, a < xNf ci → ∀ b, b < xNf ci → a ≠ b → (xT ci a).2.1 ≠ (xT ci b).2.1 := by
  match ci, hc with
  | 0, _ => exact nmX0
  | 1, _ => exact nmX1
  | 2, _ => exact nmX2
  | 3, _ => exact nmX3
  | 4, _ => exact nmX4
  | 5, _ => exact nmX5
  | 6, _ => exact nmX6
  | 7, _ => exact nmX7
  | 8, _ => exact nmX8
  | 9, _ => exact nmX9
  | 10, _ => exact nmX10
  | 11, _ => exact nmX11
  | 12, _ => exact nmX12
  | k + 13, h => exact absurd h (by omega)
/-! the heap's cells one by one -/
theorem xcell_congr {sz0 : Nat} {cA : Nat → ClassId} {I I' : XI} {L L' : XL} {G G' : XG} {j : Nat} (h1 : G'.2.1 j = G.2.1 j) (h2 : I' j = I j) (h3 : L' j = L j) (h4 : G'.1 j = G.1 j) : xcell sz0 cA I' L' G' j = xcell sz0 cA I L G j := by
  unfold xcell xac xfs xfv
  rw [h1, h2, h3, h4]
theorem xHp_upd {sz0 : Nat} {H00 : Heap} {scr : (Int → Int) × Nat} {dC : Nat → ClassId} {dI : Nat → Nat → Nat} {cA : Nat → ClassId} {I I' : XI} {L L' : XL} {G G' : XG} {H H1 : Heap} {i : Nat} (h : xHp sz0 H00 scr dC dI cA I L G H) (hG : G'.2 = G.2) (hi : i < G.2.2.1) (hz : H1.size = H.size) (oq : ∀ q : Nat, q ≠ sz0 + i → H1[q]? = H[q]?) (hat : va_at (dC, dI) xcls (sz0 + i, xcell sz0 cA I' L' G' i) H1) (hc : ∀ j, j ≠ i → I' j = I j ∧ L' j = L j ∧ G'.1 j = G.1 j) : xHp sz0 H00 scr dC dI cA I' L' G' H1 := by
  obtain ⟨h1, h2, h3, h4, h5, h6⟩ := h
  refine ⟨by rw [hz, hG]; exact h1, by rw [hG]; exact h2, by rw [hG]; exact h3, ?_, fun q hq => (oq q (by omega)).trans (h5 q hq), by rw [hG]; exact h6⟩
  intro k q hk
  rw [hG] at hk
  by_cases hl : k < G.2.2.1
  · rw [xw_get hl] at hk
    cases hk
    by_cases hki : k = i
    · rw [hki]; exact hat
    · have e : xcell sz0 cA I' L' G' k = xcell sz0 cA I L G k := xcell_congr (by rw [hG]) (hc k hki).1 (hc k hki).2.1 (hc k hki).2.2
      rw [e]
      exact (h4 k _ (xw_get hl)).kept (oq (sz0 + k) (by omega))
  · simp [xw, hl] at hk
theorem xHp_new {sz0 : Nat} {H00 : Heap} {scr : (Int → Int) × Nat} {dC : Nat → ClassId} {dI : Nat → Nat → Nat} {cA : Nat → ClassId} {I I' : XI} {L L' : XL} {G : XG} {H H1 : Heap} {sh : Nat × Nat} (h : xHp sz0 H00 scr dC dI cA I L G H) (hz : H1.size = H.size + 1) (oq : ∀ q : Nat, q < H.size → H1[q]? = H[q]?) (hat : va_at (dC, dI) xcls (sz0 + G.2.2.1, xcell sz0 cA I' L' (xnewG G sh) G.2.2.1) H1) (hn : sh.2 ≤ 1000000) (hI : ∀ j, j ≠ G.2.2.1 → I' j = I j ∧ L' j = L j) : xHp sz0 H00 scr dC dI cA I' L' (xnewG G sh) H1 := by
  obtain ⟨h1, h2, h3, h4, h5, h6⟩ := h
  have hS : ∀ j, j ≠ G.2.2.1 → (xnewG G sh).2.1 j = G.2.1 j := fun j hj => xsc_ne G.2.1 sh hj
  have hN : (xnewG G sh).2.1 G.2.2.1 = sh := xsc_same G.2.1 G.2.2.1 sh
  refine ⟨by rw [hz, h1]; rfl, fun i hi => ?_, fun i => ?_, ?_, fun q hq => (oq q (by omega)).trans (h5 q hq), h6⟩
  · show i < G.2.2.1 + 1
    by_cases hj : i = G.2.2.1
    · omega
    · rw [hS i hj] at hi
      have := h2 i hi
      omega
  · by_cases hj : i = G.2.2.1
    · rw [hj, hN]; exact hn
    · rw [hS i hj]; exact h3 i
  · intro k q hk
    have hk2 : (xw sz0 (G.2.2.1 + 1) (xcell sz0 cA I' L' (xnewG G sh)))[k]? = some q := hk
    by_cases hl : k < G.2.2.1 + 1
    · rw [xw_get hl] at hk2
      cases hk2
      by_cases hki : k = G.2.2.1
      · rw [hki]; exact hat
      · have hl2 : k < G.2.2.1 := by omega
        have e : xcell sz0 cA I' L' (xnewG G sh) k = xcell sz0 cA I L G k := xcell_congr (hS k hki) (hI k hki).1 (hI k hki).2 (xsc_ne G.1 _ hki)
        rw [e]
        exact (h4 k _ (xw_get hl2)).kept (oq (sz0 + k) (by omega))
    · simp [xw, hl] at hk2
theorem xS_new {sz0 : Nat} {H0 H H1 : Heap} {locs : List Loc} (hS : va_S (fun q => sz0 ≤ q) H0 H locs) (hz : H1.size = H.size + 1) (oq : ∀ q : Nat, q < H.size → H1[q]? = H[q]?) : va_S (fun q => sz0 ≤ q) H0 H1 locs :=
  ⟨Nat.le_trans hS.1 (by omega), fun x h1 h2 => (oq x (Nat.lt_of_lt_of_le h1 hS.1)).trans (hS.2.1 x h1 h2), hS.2.2⟩
