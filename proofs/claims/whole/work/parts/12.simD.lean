theorem wA_int : Cond.arrayClass .int ∈ lw_g := lw_g_of (i := 195) (by decide +kernel) rfl
theorem wA_byte : Cond.arrayClass .byte ∈ lw_g := lw_g_of (i := 194) (by decide +kernel) rfl
theorem wA_boolean : Cond.arrayClass .boolean ∈ lw_g := lw_g_of (i := 429) (by decide +kernel) rfl
theorem wA_long : Cond.arrayClass .long ∈ lw_g := lw_g_of (i := 355) (by decide +kernel) rfl
theorem w_cast : Cond.classLink "java/util/Arrays" 317 "[I" ∈ lw_g := lw_g_of (i := 780) (by decide +kernel) rfl
theorem w_cl1 : Cond.methodLink "java/util/Arrays" 316 ⟨"[I", "clone", "()Ljava/lang/Object;"⟩ ∈ lw_g := lw_g_of (i := 774) (by decide +kernel) rfl
theorem w_cl2 : Cond.sameMethod "[I" "java/lang/Object" "clone" "()Ljava/lang/Object;" ∈ lw_g := lw_g_of (i := 775) (by decide +kernel) rfl
theorem w_cl3 : Cond.native ⟨"java/lang/Object", "clone", "()Ljava/lang/Object;"⟩ ∈ lw_g := lw_g_of (i := 776) (by decide +kernel) rfl
theorem w_cl4 : Cond.instanceMethod ⟨"java/lang/Object", "clone", "()Ljava/lang/Object;"⟩ ∈ lw_g := lw_g_of (i := 777) (by decide +kernel) rfl
theorem w_cl5 : Cond.selects "[I" ⟨"[I", "clone", "()Ljava/lang/Object;"⟩ ⟨"java/lang/Object", "clone", "()Ljava/lang/Object;"⟩ ∈ lw_g := lw_g_of (i := 778) (by decide +kernel) rfl
theorem w_ac1 : Cond.native arraycopyName ∈ lw_g := lw_g_of (i := 705) (by decide +kernel) rfl
theorem w_ac2 : Cond.static arraycopyName ∈ lw_g := lw_g_of (i := 704) (by decide +kernel) rfl
theorem w_ac3 : Cond.initialized "java/lang/System" ∈ lw_g := lw_g_of (i := 136) (by decide +kernel) rfl
theorem w_max1 : Cond.static Lib.Math.max.name ∈ lw_g := lw_g_of (i := 1131) (by decide +kernel) rfl
theorem w_max2 : Cond.code Lib.Math.max.name Lib.Math.max.code 2 (some .int) ∈ lw_g := lw_g_of (i := 1132) (by decide +kernel) rfl
theorem w_min1 : Cond.static Lib.Math.min.name ∈ lw_g := lw_g_of (i := 782) (by decide +kernel) rfl
theorem w_min2 : Cond.code Lib.Math.min.name Lib.Math.min.code 2 (some .int) ∈ lw_g := lw_g_of (i := 783) (by decide +kernel) rfl
theorem w_math : Cond.initialized "java/lang/Math" ∈ lw_g := lw_g_of (i := 138) (by decide +kernel) rfl
theorem w_ob1 : Cond.instanceMethod Lib.objectInit ∈ lw_g := lw_g_of (i := 146) (by decide +kernel) rfl
theorem w_ob2 : Cond.code Lib.objectInit ⟨#[0xb1]⟩ 1 none ∈ lw_g := lw_g_of (i := 147) (by decide +kernel) rfl
theorem xwds_cat {sz0 : Nat} {tk : Nat → Nat} : ∀ st : List XV, ((st.map (cv sz0 tk)).map fun v => v.category).sum = xwds st := by
  intro st
  induction st with
  | nil => rfl
  | cons a r ih =>
    rw [List.map_cons, List.map_cons, List.sum_cons, ih]
    match a with
    | .inl _ => show 1 + xwds r = xwds r + 1; omega
    | .inr (.inl _) => show 2 + xwds r = xwds r + 2; omega
    | .inr (.inr (.inl none)) => show 1 + xwds r = xwds r + 1; omega
    | .inr (.inr (.inl (some _))) => show 1 + xwds r = xwds r + 1; omega
    | .inr (.inr (.inr _)) => show 1 + xwds r = xwds r + 1; omega
theorem xbytes {n b : Nat} (h : n ≤ 100000) (hb : b ≤ 8) : n * b ≤ 536870912 := Nat.le_trans (Nat.mul_le_mul h hb) (by decide)
theorem xs_aastore {l : Launch} {sz0 : Nat} {H00 : Heap} {scr : (Int → Int) × Nat} {dC : Nat → ClassId} {dI : Nat → Nat → Nat} {cA : Nat → ClassId} {tk : Nat → Nat} {xStr : State → Prop} {Y : XX} {d m : Nat} {es : List XE} {k : Nat} {ls st : List XV} {I : XI} {L : XL} {G : XG} {c s0 : Nat} {post : XQ} {p : Program} {e : Env} {R : Room} {s : State} {mi : MethodId} {args : Array Value} {below : List Frame} {meth : Method} {cd : Code} {H : Heap} {locs : List Loc} {cells slots mc ms : Nat} {arr : Array Slot} {Q : State → Prop} {pc : Nat} {ns : List Nat} {vs : List Int}  (C : xCx l sz0 H00 scr dC dI cA tk xStr Y d m es ls I L G c s0 post p e R s mi args below meth cd H locs cells slots mc ms arr Q) (hd : decode (mC m) pc = .ok (.aastore, 1)) (hf : pcO es (k + 1) = some (pc + 1))  (h : xop Y d m es k (.aastore) ns vs ls st I L G c s0 post) : W p l e R s mi args below meth cd H locs cells slots Q (F0 mi pc arr (st.map (cv sz0 tk))) := by
  have hx := C.2.1.1
  have hb := C.2.1.2.1
  simp only [xop] at h
  have hH := C.2.2.2.2.2.2.1
  have hK := C.2.2.1.1
  have hts := C.2.1.2.2.2.2.1
  have hown := C.2.1.2.2.2.1
  have hR := C.2.2.2.1
  split at h
  · rename_i v a i r
    cases hb1 : (Nat.beq (G.2.1 i).1 105 && Nat.beq (G.2.1 v).1 4) with
    | true =>
      rw [hb1] at h
      simp only [Bool.true_or, cond] at h
      have hbq := hb1
      simp only [Bool.and_eq_true] at hbq
      obtain ⟨⟨h0, h1⟩, h⟩ := h
      have ht : (G.2.1 i).1 = 105 := Nat.eq_of_beq_eq_true hbq.1
      have htv : (G.2.1 v).1 = 3 + 1 := Nat.eq_of_beq_eq_true hbq.2
      obtain ⟨hi, he⟩ := xHp_arr hH ht (by decide)
      obtain ⟨hiv, hev⟩ := xHp_obj hH htv (by decide)
      have hn := hH.2.2.1 i
      rw [xac_q (by decide)] at he
      have hin := xo_in h0 h1 (by omega)
      obtain ⟨r', hr', cellV, g1, g2, g3, -⟩ := hH.2.2.2.1 v _ hev
      have hcls := (hK.1 3 _ (xcls_at (by decide))).2
      obtain ⟨kA, comp, k1, k2, k3, -⟩ := (hK.2 4 _ rfl).2
      have hcomp : comp = dC 3 := Option.some.inj (k3.symm.trans hcls.1)
      subst hcomp
      obtain ⟨kC, hkC, -⟩ := hcls.2
      refine W.aast hx hb (hH.2.2.2.1 i _ he) (fun q h => by cases h) (fun h => by cases h) k1 k2 rfl hkC ⟨fun q => hin (Or.inl q), by show _ < (arrV _ _ _).slots.size; rw [arrV_size]; exact Nat.not_le.mp fun q => hin (Or.inr q)⟩ g1 (fun q h => by rw [g3] at h; cases h) (by rw [g2]; exact hkC) (by rw [g2]; exact va_assign hcls) rfl rfl hd fun H1 e z oq => ?_
      refine xgo C h hf ((C.2.2.2.2.2.1).put z oq (Nat.le_add_right _ _)) (xHp_upd (G' := (xwr G.1 i a (some v), G.2)) hH rfl hi z oq ?_ (fun j hj => ⟨rfl, rfl, xwr_ne G.1 _ _ hj⟩)) C.2.2.2.2.2.2.2.1 C.2.2.2.1.2.2.2.2.1 C.2.2.2.1.2.2.2.2.2
      rw [xcell_a (G := (xwr G.1 i a (some v), G.2)) ht (by decide), xac_q (by decide)]
      show H1[sz0 + i]? = some (vp_cell _ _)
      rw [e, vp_cell_q, vp_cell_q, arrV_store, xo_clamp h0 (by omega), xst_q h0]
    | false =>
      cases hb2 : (Nat.beq (G.2.1 i).1 106 && Nat.beq (G.2.1 v).1 8) with
      | false => rw [hb1, hb2] at h; exact h.elim
      | true =>
      rw [hb1, hb2] at h
      simp only [Bool.false_or, cond] at h
      have hbq := hb2
      simp only [Bool.and_eq_true] at hbq
      obtain ⟨⟨h0, h1⟩, h⟩ := h
      have ht : (G.2.1 i).1 = 106 := Nat.eq_of_beq_eq_true hbq.1
      have htv : (G.2.1 v).1 = 7 + 1 := Nat.eq_of_beq_eq_true hbq.2
      obtain ⟨hi, he⟩ := xHp_arr hH ht (by decide)
      obtain ⟨hiv, hev⟩ := xHp_obj hH htv (by decide)
      have hn := hH.2.2.1 i
      rw [xac_q (by decide)] at he
      have hin := xo_in h0 h1 (by omega)
      obtain ⟨r', hr', cellV, g1, g2, g3, -⟩ := hH.2.2.2.1 v _ hev
      have hcls := (hK.1 7 _ (xcls_at (by decide))).2
      obtain ⟨kA, comp, k1, k2, k3, -⟩ := (hK.2 5 _ rfl).2
      have hcomp : comp = dC 7 := Option.some.inj (k3.symm.trans hcls.1)
      subst hcomp
      obtain ⟨kC, hkC, -⟩ := hcls.2
      refine W.aast hx hb (hH.2.2.2.1 i _ he) (fun q h => by cases h) (fun h => by cases h) k1 k2 rfl hkC ⟨fun q => hin (Or.inl q), by show _ < (arrV _ _ _).slots.size; rw [arrV_size]; exact Nat.not_le.mp fun q => hin (Or.inr q)⟩ g1 (fun q h => by rw [g3] at h; cases h) (by rw [g2]; exact hkC) (by rw [g2]; exact va_assign hcls) rfl rfl hd fun H1 e z oq => ?_
      refine xgo C h hf ((C.2.2.2.2.2.1).put z oq (Nat.le_add_right _ _)) (xHp_upd (G' := (xwr G.1 i a (some v), G.2)) hH rfl hi z oq ?_ (fun j hj => ⟨rfl, rfl, xwr_ne G.1 _ _ hj⟩)) C.2.2.2.2.2.2.2.1 C.2.2.2.1.2.2.2.2.1 C.2.2.2.1.2.2.2.2.2
      rw [xcell_a (G := (xwr G.1 i a (some v), G.2)) ht (by decide), xac_q (by decide)]
      show H1[sz0 + i]? = some (vp_cell _ _)
      rw [e, vp_cell_q, vp_cell_q, arrV_store, xo_clamp h0 (by omega), xst_q h0]
  · exact h.elim
theorem xKd_ok : (List.range 13).all (fun ci => (List.range (xNf ci)).all (fun k => decide (xKd ci k ≠ 9))) = true := by decide +kernel
theorem xKd_le {ci k : Nat} (hc : ci < 13) (hk : k < xNf ci) : ¬ xKd ci k = 9 := of_decide_eq_true (List.all_eq_true.mp (List.all_eq_true.mp xKd_ok ci (List.mem_range.mpr hc)) k (List.mem_range.mpr hk))
theorem xs_new {l : Launch} {sz0 : Nat} {H00 : Heap} {scr : (Int → Int) × Nat} {dC : Nat → ClassId} {dI : Nat → Nat → Nat} {cA : Nat → ClassId} {tk : Nat → Nat} {xStr : State → Prop} {Y : XX} {d m : Nat} {es : List XE} {k : Nat} {ls st : List XV} {I : XI} {L : XL} {G : XG} {c s0 : Nat} {post : XQ} {p : Program} {e : Env} {R : Room} {s : State} {mi : MethodId} {args : Array Value} {below : List Frame} {meth : Method} {cd : Code} {H : Heap} {locs : List Loc} {cells slots mc ms : Nat} {arr : Array Slot} {Q : State → Prop} {pc : Nat} {ci j nf pp : Nat} {vs : List Int} {idx : Nat} (C : xCx l sz0 H00 scr dC dI cA tk xStr Y d m es ls I L G c s0 post p e R s mi args below meth cd H locs cells slots mc ms arr Q) (hd : decode (mC m) pc = .ok (.new idx, 3)) (hf : pcO es (k + 1) = some (pc + 3)) (hk : cT[j]? = some (mO m, idx, ci, pp)) (hci : ci < 13) (hnf : nf = xNf ci) (h : xop Y d m es k (.new idx) [ci, j, nf] vs ls st I L G c s0 post) : W p l e R s mi args below meth cd H locs cells slots Q (F0 mi pc arr (st.map (cv sz0 tk))) := by
  have hx := C.2.1.1
  have hb := C.2.1.2.1
  simp only [xop] at h
  have hH := C.2.2.2.2.2.2.1
  have hK := C.2.2.1.1
  have hts := C.2.1.2.2.2.2.1
  have hown := C.2.1.2.2.2.1
  have hR := C.2.2.2.1
  have hcl := hts _ (cT_in hk)
  obtain ⟨⟨hc1, hs1⟩, h⟩ := h
  have hKn := hK.1 ci _ (xcls_at hci)
  obtain ⟨hi1, hi2⟩ := iW_in hci
  refine W.newcK hx hb hown hcl (hts _ hi1) (hts _ hi2) rfl hd (by omega) (by omega) hKn.2.1 rfl fun H1 kC hkC e1 z1 o1 => ?_
  have hsz := hH.1
  rw [hsz]
  refine xgo C (st' := xr (some G.2.2.1) :: st) h hf (xS_new C.2.2.2.2.2.1 z1 o1) (xHp_new hH z1 o1 ?_ (by show (0 : Nat) ≤ _; omega) (fun j hj => ⟨xsc_ne I _ hj, xsc_ne L _ hj⟩)) C.2.2.2.2.2.2.2.1 (by omega) (by omega)
  have ec : xcell sz0 cA (xsc I G.2.2.1 (fun _ => 0)) (xsc L G.2.2.1 (fun _ => 0)) (xnewG G (ci + 1, 0)) G.2.2.1 = .inr (ci, xfs sz0 (xsc I G.2.2.1 (fun _ => 0)) (xsc L G.2.2.1 (fun _ => 0)) (xnewG G (ci + 1, 0)).1 G.2.2.1 ci) := by
    unfold xcell
    have e2 : (xnewG G (ci + 1, 0)).2.1 G.2.2.1 = (ci + 1, 0) := xsc_same G.2.1 _ _
    rw [e2, if_neg (by show ¬ 101 ≤ ci + 1; omega)]
    rfl
  rw [ec]
  rw [hsz] at e1
  refine ⟨_, xcls_at hci, (u_born (xTy ci) hts (u_in hci) hKn hkC e1 (xTy_ok hci)).to (fun j hj => ?_)⟩
  unfold vp_V
  have hat := xfs_at (sz0 := sz0) (I := xsc I G.2.2.1 (fun _ => 0)) (L := xsc L G.2.2.1 (fun _ => 0)) (P := (xnewG G (ci + 1, 0)).1) (i := G.2.2.1) hj
  rw [List.getD_eq_getElem?_getD, hat]
  have hkt := kd_at hci hj
  show _ = xfv _ _ _ _ _ _ _
  unfold xfv
  rw [xsc_same, xsc_same]
  have eP : (xnewG G (ci + 1, 0)).1 G.2.2.1 = fun _ => none := xsc_same G.1 _ _
  rw [eP, ← hkt]
  cases hq : xTy ci j <;> first | rfl | (rw [hq] at hkt; exact absurd hkt.symm (xKd_le hci hj))
theorem xs_newarray {l : Launch} {sz0 : Nat} {H00 : Heap} {scr : (Int → Int) × Nat} {dC : Nat → ClassId} {dI : Nat → Nat → Nat} {cA : Nat → ClassId} {tk : Nat → Nat} {xStr : State → Prop} {Y : XX} {d m : Nat} {es : List XE} {k : Nat} {ls st : List XV} {I : XI} {L : XL} {G : XG} {c s0 : Nat} {post : XQ} {p : Program} {e : Env} {R : Room} {s : State} {mi : MethodId} {args : Array Value} {below : List Frame} {meth : Method} {cd : Code} {H : Heap} {locs : List Loc} {cells slots mc ms : Nat} {arr : Array Slot} {Q : State → Prop} {pc : Nat} {ns : List Nat} {vs : List Int} {ty : ArrayType} (C : xCx l sz0 H00 scr dC dI cA tk xStr Y d m es ls I L G c s0 post p e R s mi args below meth cd H locs cells slots mc ms arr Q) (hd : decode (mC m) pc = .ok (.newarray ty, 2)) (hf : pcO es (k + 1) = some (pc + 2))  (h : xop Y d m es k (.newarray ty) ns vs ls st I L G c s0 post) : W p l e R s mi args below meth cd H locs cells slots Q (F0 mi pc arr (st.map (cv sz0 tk))) := by
  have hx := C.2.1.1
  have hb := C.2.1.2.1
  simp only [xop] at h
  have hH := C.2.2.2.2.2.2.1
  have hK := C.2.2.1.1
  have hts := C.2.1.2.2.2.2.1
  have hown := C.2.1.2.2.2.1
  have hR := C.2.2.2.1
  split at h
  · rename_i n r
    match ty, h, hd with
    | .int, h, hd =>
      have h : (0 ≤ n ∧ n ≤ 100000 ∧ 1 ≤ c ∧ n.toNat ≤ s0) ∧ Y d m es (k + 1) ls (xr (some G.2.2.1) :: r) (xsc I G.2.2.1 (fun _ => 0)) (xsc L G.2.2.1 (fun _ => 0)) (xnewG G (101, n.toNat)) (c - 1) (s0 - n.toNat) post := h
      obtain ⟨⟨h0, h1, hc1, hs1⟩, h⟩ := h
      refine va_newaK hx hb (atype := .int) (hts _ wA_int) rfl hd rfl (xo_nneg h0 (by omega)) (xo_clamp h0 (by omega)) (xbytes (by omega) (by decide)) (by omega) (by omega) rfl fun H1 cA1 e1 z1 o1 hAr hNm => ?_
      have hsz := hH.1
      have hcA : cA1 = cA 101 := Option.some.inj (hNm.symm.trans (hK.2 0 _ rfl).2)
      subst hcA
      rw [hsz] at e1 ⊢
      refine xgo C (st' := xr (some G.2.2.1) :: r) h hf (xS_new C.2.2.2.2.2.1 z1 o1) (xHp_new hH z1 o1 ?_ (by show n.toNat ≤ _; omega) (fun j hj => ⟨xsc_ne I _ hj, xsc_ne L _ hj⟩)) C.2.2.2.2.2.2.2.1 (by omega) (by omega)
      have e2 : ((xnewG G (101, n.toNat)).2.1 G.2.2.1) = (101, n.toNat) := xsc_same G.2.1 _ _
      rw [xcell_a (tg := 101) (by rw [e2]) (by decide), e2, xac_i (by decide)]
      show H1[sz0 + G.2.2.1]? = some (vp_cell _ _)
      rw [e1, vp_cell_i, xsc_same]
      rfl
    | .byte, h, hd =>
      have h : (0 ≤ n ∧ n ≤ 100000 ∧ 1 ≤ c ∧ n.toNat ≤ s0) ∧ Y d m es (k + 1) ls (xr (some G.2.2.1) :: r) (xsc I G.2.2.1 (fun _ => 0)) (xsc L G.2.2.1 (fun _ => 0)) (xnewG G (102, n.toNat)) (c - 1) (s0 - n.toNat) post := h
      obtain ⟨⟨h0, h1, hc1, hs1⟩, h⟩ := h
      refine va_newaK hx hb (atype := .byte) (hts _ wA_byte) rfl hd rfl (xo_nneg h0 (by omega)) (xo_clamp h0 (by omega)) (xbytes (by omega) (by decide)) (by omega) (by omega) rfl fun H1 cA1 e1 z1 o1 hAr hNm => ?_
      have hsz := hH.1
      have hcA : cA1 = cA 102 := Option.some.inj (hNm.symm.trans (hK.2 1 _ rfl).2)
      subst hcA
      rw [hsz] at e1 ⊢
      refine xgo C (st' := xr (some G.2.2.1) :: r) h hf (xS_new C.2.2.2.2.2.1 z1 o1) (xHp_new hH z1 o1 ?_ (by show n.toNat ≤ _; omega) (fun j hj => ⟨xsc_ne I _ hj, xsc_ne L _ hj⟩)) C.2.2.2.2.2.2.2.1 (by omega) (by omega)
      have e2 : ((xnewG G (102, n.toNat)).2.1 G.2.2.1) = (102, n.toNat) := xsc_same G.2.1 _ _
      rw [xcell_a (tg := 102) (by rw [e2]) (by decide), e2, xac_i (by decide)]
      show H1[sz0 + G.2.2.1]? = some (vp_cell _ _)
      rw [e1, vp_cell_i, xsc_same]
      rfl
    | .boolean, h, hd =>
      have h : (0 ≤ n ∧ n ≤ 100000 ∧ 1 ≤ c ∧ n.toNat ≤ s0) ∧ Y d m es (k + 1) ls (xr (some G.2.2.1) :: r) (xsc I G.2.2.1 (fun _ => 0)) (xsc L G.2.2.1 (fun _ => 0)) (xnewG G (103, n.toNat)) (c - 1) (s0 - n.toNat) post := h
      obtain ⟨⟨h0, h1, hc1, hs1⟩, h⟩ := h
      refine va_newaK hx hb (atype := .boolean) (hts _ wA_boolean) rfl hd rfl (xo_nneg h0 (by omega)) (xo_clamp h0 (by omega)) (xbytes (by omega) (by decide)) (by omega) (by omega) rfl fun H1 cA1 e1 z1 o1 hAr hNm => ?_
      have hsz := hH.1
      have hcA : cA1 = cA 103 := Option.some.inj (hNm.symm.trans (hK.2 2 _ rfl).2)
      subst hcA
      rw [hsz] at e1 ⊢
      refine xgo C (st' := xr (some G.2.2.1) :: r) h hf (xS_new C.2.2.2.2.2.1 z1 o1) (xHp_new hH z1 o1 ?_ (by show n.toNat ≤ _; omega) (fun j hj => ⟨xsc_ne I _ hj, xsc_ne L _ hj⟩)) C.2.2.2.2.2.2.2.1 (by omega) (by omega)
      have e2 : ((xnewG G (103, n.toNat)).2.1 G.2.2.1) = (103, n.toNat) := xsc_same G.2.1 _ _
      rw [xcell_a (tg := 103) (by rw [e2]) (by decide), e2, xac_i (by decide)]
      show H1[sz0 + G.2.2.1]? = some (vp_cell _ _)
      rw [e1, vp_cell_i, xsc_same]
      rfl
    | .long, h, hd =>
      have h : (0 ≤ n ∧ n ≤ 100000 ∧ 1 ≤ c ∧ n.toNat ≤ s0) ∧ Y d m es (k + 1) ls (xr (some G.2.2.1) :: r) (xsc I G.2.2.1 (fun _ => 0)) (xsc L G.2.2.1 (fun _ => 0)) (xnewG G (104, n.toNat)) (c - 1) (s0 - n.toNat) post := h
      obtain ⟨⟨h0, h1, hc1, hs1⟩, h⟩ := h
      refine va_newaK hx hb (atype := .long) (hts _ wA_long) rfl hd rfl (xo_nneg h0 (by omega)) (xo_clamp h0 (by omega)) (xbytes (by omega) (by decide)) (by omega) (by omega) rfl fun H1 cA1 e1 z1 o1 hAr hNm => ?_
      have hsz := hH.1
      have hcA : cA1 = cA 104 := Option.some.inj (hNm.symm.trans (hK.2 3 _ rfl).2)
      subst hcA
      rw [hsz] at e1 ⊢
      refine xgo C (st' := xr (some G.2.2.1) :: r) h hf (xS_new C.2.2.2.2.2.1 z1 o1) (xHp_new hH z1 o1 ?_ (by show n.toNat ≤ _; omega) (fun j hj => ⟨xsc_ne I _ hj, xsc_ne L _ hj⟩)) C.2.2.2.2.2.2.2.1 (by omega) (by omega)
      have e2 : ((xnewG G (104, n.toNat)).2.1 G.2.2.1) = (104, n.toNat) := xsc_same G.2.1 _ _
      rw [xcell_a (tg := 104) (by rw [e2]) (by decide), e2, xac_l]
      show H1[sz0 + G.2.2.1]? = some (vp_cell _ _)
      rw [e1, vp_cell_l, xsc_same]
      rfl
    | .char, h, hd => exact h.elim
    | .float, h, hd => exact h.elim
    | .double, h, hd => exact h.elim
    | .short, h, hd => exact h.elim
  · exact h.elim
theorem xs_anewarray {l : Launch} {sz0 : Nat} {H00 : Heap} {scr : (Int → Int) × Nat} {dC : Nat → ClassId} {dI : Nat → Nat → Nat} {cA : Nat → ClassId} {tk : Nat → Nat} {xStr : State → Prop} {Y : XX} {d m : Nat} {es : List XE} {k : Nat} {ls st : List XV} {I : XI} {L : XL} {G : XG} {c s0 : Nat} {post : XQ} {p : Program} {e : Env} {R : Room} {s : State} {mi : MethodId} {args : Array Value} {below : List Frame} {meth : Method} {cd : Code} {H : Heap} {locs : List Loc} {cells slots mc ms : Nat} {arr : Array Slot} {Q : State → Prop} {pc : Nat} {tg j ci pp : Nat} {vs : List Int} {idx : Nat} (C : xCx l sz0 H00 scr dC dI cA tk xStr Y d m es ls I L G c s0 post p e R s mi args below meth cd H locs cells slots mc ms arr Q) (hd : decode (mC m) pc = .ok (.anewarray idx, 3)) (hf : pcO es (k + 1) = some (pc + 3)) (hk : cT[j]? = some (mO m, idx, ci, pp)) (htg : (tg = 105 ∧ ci = 3) ∨ (tg = 106 ∧ ci = 7)) (h : xop Y d m es k (.anewarray idx) [tg, j] vs ls st I L G c s0 post) : W p l e R s mi args below meth cd H locs cells slots Q (F0 mi pc arr (st.map (cv sz0 tk))) := by
  have hx := C.2.1.1
  have hb := C.2.1.2.1
  simp only [xop] at h
  have hH := C.2.2.2.2.2.2.1
  have hK := C.2.2.1.1
  have hts := C.2.1.2.2.2.2.1
  have hown := C.2.1.2.2.2.1
  have hR := C.2.2.2.1
  split at h
  · rename_i heq
    cases heq
    rename_i n r
    obtain ⟨⟨h0, h1, hc1, hs1⟩, h⟩ := h
    have hclink := hts _ (cT_in hk)
    have go : ∀ (Cn : String) (t0 : Nat), Cn = cn ci → va_AO Cn s → (xtys cA)[t0]? = some (cA tg, .object Cn) → 105 ≤ tg → W p l e R s mi args below meth cd H locs cells slots Q (F0 mi pc arr (Value.int (Int32.ofInt n) :: r.map (cv sz0 tk))) := by
      intro Cn t0 hCn hAO hty htg
      subst hCn
      refine W.anew hx hb hown hclink (va_AO.use hAO) rfl hd rfl (xo_nneg h0 (by omega)) (by rw [xo_clamp h0 (by omega)]; omega) (by omega) (by rw [xo_clamp h0 (by omega)]; omega) fun cA1 kA comp f1 f2 f3 f4 => ?_
      obtain ⟨kA2, comp2, g1, g2, g3, g4⟩ := (hK.2 t0 _ hty).2
      have hcA : cA1 = cA tg := Option.some.inj (f1.symm.trans g4)
      subst hcA
      have hsz := hH.1
      generalize hH1 : H.push ({ cls := cA tg, slots := Array.replicate (Int32.ofInt n).toNatClampNeg .null, vm := .none } : Cell) = H1
      have z1 : H1.size = H.size + 1 := by rw [← hH1, Array.size_push]
      have e1 : H1[H.size]? = some (arrV (cA tg) (Int32.ofInt n).toNatClampNeg (fun _ => .null)) := by rw [← hH1, Array.getElem?_push_size, ← arrV_new]
      have o1 : ∀ q : Nat, q < H.size → H1[q]? = H[q]? := fun q hq => by rw [← hH1, Array.getElem?_push, if_neg (Nat.ne_of_lt hq)]
      rw [xo_clamp h0 (by omega)] at e1 ⊢
      rw [hsz] at e1 ⊢
      refine xgo C (st' := xr (some G.2.2.1) :: r) h hf (xS_new C.2.2.2.2.2.1 z1 o1) (xHp_new hH z1 o1 ?_ (by show n.toNat ≤ _; omega) (fun j hj => ⟨xsc_ne I _ hj, xsc_ne L _ hj⟩)) C.2.2.2.2.2.2.2.1 (by omega) (by omega)
      have e2 : ((xnewG G (tg, n.toNat)).2.1 G.2.2.1) = (tg, n.toNat) := xsc_same G.2.1 _ _
      have e3 : (xnewG G (tg, n.toNat)).1 G.2.2.1 = fun _ => none := xsc_same G.1 _ _
      rw [xcell_a (tg := tg) (by rw [e2]) (by omega), e2, xac_q htg, e3]
      show H1[sz0 + G.2.2.1]? = some (vp_cell _ _)
      rw [e1, vp_cell_q]
      rfl
    rcases htg with ⟨h5, h6⟩ | ⟨h5, h6⟩
    · subst h5; subst h6
      exact go "RueCake$Rule" 4 rfl C.2.2.1.2.2.2.1 rfl (by decide)
    · subst h5; subst h6
      exact go "RueCake$State" 5 rfl C.2.2.1.2.2.2.2.1 rfl (by decide)
  · exact h.elim
theorem xs_checkcast {l : Launch} {sz0 : Nat} {H00 : Heap} {scr : (Int → Int) × Nat} {dC : Nat → ClassId} {dI : Nat → Nat → Nat} {cA : Nat → ClassId} {tk : Nat → Nat} {xStr : State → Prop} {Y : XX} {d m : Nat} {es : List XE} {k : Nat} {ls st : List XV} {I : XI} {L : XL} {G : XG} {c s0 : Nat} {post : XQ} {p : Program} {e : Env} {R : Room} {s : State} {mi : MethodId} {args : Array Value} {below : List Frame} {meth : Method} {cd : Code} {H : Heap} {locs : List Loc} {cells slots mc ms : Nat} {arr : Array Slot} {Q : State → Prop} {pc : Nat} {ns : List Nat} {vs : List Int} {idx : Nat} (C : xCx l sz0 H00 scr dC dI cA tk xStr Y d m es ls I L G c s0 post p e R s mi args below meth cd H locs cells slots mc ms arr Q) (hd : decode (mC m) pc = .ok (.checkcast idx, 3)) (hf : pcO es (k + 1) = some (pc + 3)) (hidx : idx = 317) (hm13 : mO m = 13) (h : xop Y d m es k (.checkcast idx) ns vs ls st I L G c s0 post) : W p l e R s mi args below meth cd H locs cells slots Q (F0 mi pc arr (st.map (cv sz0 tk))) := by
  have hx := C.2.1.1
  have hb := C.2.1.2.1
  simp only [xop] at h
  have hH := C.2.2.2.2.2.2.1
  have hK := C.2.2.1.1
  have hts := C.2.1.2.2.2.2.1
  have hown := C.2.1.2.2.2.1
  have hR := C.2.2.2.1
  split at h
  · rename_i i r
    cases hbq : Nat.beq (G.2.1 i).1 101 with
    | false => rw [hbq] at h; exact h.elim
    | true =>
      rw [hbq] at h
      simp only [cond] at h
      obtain ⟨hi, he⟩ := xHp_arr hH (Nat.eq_of_beq_eq_true hbq) (by decide)
      subst hidx
      have hlink := hts _ w_cast
      have hnm : s.vm.findClass "[I" = some (cA 101) := (hK.2 0 _ rfl).2
      exact va_castA hx hb (own := "java/util/Arrays") (by rw [hm13] at hown; exact hown) hlink hH.2.2.2.1 i he hnm hd (xgo0 C (st' := xr (some i) :: r) h hf)
  · exact h.elim
