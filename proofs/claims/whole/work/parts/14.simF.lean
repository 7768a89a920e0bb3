/-- the words of a method: its code, and those of the tables -/
def xws (m : Nat) : List Cond := Cond.code (mY m) (mC m) (mL m) (mR m) :: lw_g
def xQc (sz0 : Nat) (H00 : Heap) (scr : (Int → Int) × Nat) (dC : Nat → ClassId) (dI : Nat → Nat → Nat) (cA : Nat → ClassId) (tk : Nat → Nat) (post : XQ) : Array Value → State → Outcome → State → Prop := fun _ st oc t => ∃ (r : Option XV) (I : XI) (L : XL) (G : XG), oc = .returned (r.map (cv sz0 tk)) ∧ xHp sz0 H00 scr dC dI cA I L G t.heap ∧ st.heap.size ≤ t.heap.size ∧ post r I L G
theorem mWp {m : Nat} (hm : m < 264) : (lw_tbl[(mW m).2.1]? = some (if (mW m).2.2.2.2 = 1 then .static (mY m) else .instanceMethod (mY m))) ∧ ((mW m).2.2.2.2 ≠ 0 ∨ lw_tbl[(mW m).2.2.1]? = some (.selects (mY m).cls (mY m) (mY m))) ∧ lw_tbl[(mW m).2.2.2.1]? = some (.initialized (mY m).cls) ∧ (mY m).cls = cn (mO m) ∧ plainName (mY m).cls = true ∧ (mY m).cls ≠ "java/lang/invoke/MethodHandle" ∧ (mY m).cls ≠ "java/lang/invoke/VarHandle" ∧ (parseMethodDescriptor (mY m).desc).map (fun d => d.parameters.length) = some (mN m) ∧ mL m ≤ 12 ∧ ((mW m).2.2.2.2 ≠ 2 ∨ ((mY m).name = "<init>" ∧ mR m = none)) := by
  have h := mW_okA m hm
  unfold mWok at h
  simp only [Bool.and_eq_true, Bool.or_eq_true, decide_eq_true_eq] at h
  obtain ⟨⟨⟨⟨⟨⟨⟨⟨⟨h1, h2⟩, h3⟩, h4⟩, h5⟩, h6⟩, h7⟩, h8⟩, h9⟩, h10⟩ := h
  exact ⟨h1, h2, h3, h4, h5, h6, h7, h8, h9, h10⟩
theorem xws_good {m : Nat} (hm : m < 264) : GoodIn lw_g (xws m) := by
  intro w hw
  rcases List.mem_cons.mp hw with rfl | hw
  · exact ⟨lw_g_of (mc_all m hm) rfl, Or.inl rfl⟩
  · exact lw_g_good w hw
theorem xMet {l : Launch} {sz0 : Nat} {H00 : Heap} {scr : (Int → Int) × Nat} {dC : Nat → ClassId} {dI : Nat → Nat → Nat} {cA : Nat → ClassId} {tk : Nat → Nat} {xStr : State → Prop} (hX : xStrOk xStr) {d m : Nat} {as : List XV} {I : XI} {L : XL} {G : XG} {c s0 : Nat} {post : XQ} (hm : m < 264) (h : xSim l sz0 H00 scr dC dI cA tk xStr d m (mE m) 0 (xent (mL m) as) [] I L G c s0 post) (hlen : (xents as).length ≤ mL m) : Met l (mY m) (xws m) ({ frames := d, cells := c, slots := s0, locals := 40 * d } : Room) (va_Pc (as.map (cv sz0 tk)) (fun U => xHp sz0 H00 scr dC dI cA I L G U.heap ∧ xCt sz0 H00 scr dC dI cA tk xStr U)) (xQc sz0 H00 scr dC dI cA tk post) c s0 (fun q => sz0 ≤ q) := by
  obtain ⟨-, -, -, hcls, hpl, -, -, -, -, -⟩ := mWp hm
  refine Met.ofW (cc := mC m) (maxL := mL m) (ret := mR m) hpl rfl ?_
  intro p e s mi args below meth cd s₁ B hml hv
  obtain ⟨rfl, hH, hC⟩ := hv
  have hts := atoms_spec (ws := xws m) B.pre
  rw [lg_entry_eq]
  have hpc : pcO (mE m) 0 = some 0 := of_decide_eq_true (List.all_eq_true.mp mE_at0 m (List.mem_range.mpr (by omega)))
  have hown : s.vm.findClass (cn (mO m)) = some mi.cls := by rw [← hcls]; exact findClass_of_methodNamed B.named
  have hB : xBase p s mi (as.map (cv sz0 tk)).toArray meth cd m := ⟨B.exec, B.bytes, hml, hown, fun w hw => hts w (List.mem_cons_of_mem _ hw), B.returns, B.notSynchronized, fun hi => by rw [(name_of_methodNamed B.named B.method).1]; exact hi, by omega⟩
  have hsz : sz0 ≤ s.heap.size := by rw [hH.1]; omega
  have hret : xRet l sz0 H00 scr dC dI cA tk p e (headSpec (xws m) ({ frames := d, cells := c, slots := s0, locals := 40 * d } : Room)).room s mi (as.map (cv sz0 tk)).toArray below meth cd m c s0 (MQ below (xQc sz0 H00 scr dC dI cA tk post) (as.map (cv sz0 tk)).toArray s c s0 (fun q => sz0 ≤ q)) post := by
    intro r I' L' G' H' locs' cells' slots' arr' pc ins hd hins hH' hS' hc' hs' hp
    refine W.widen (k := c) (n := s0) hc' hs' ?_
    have hq : ∀ t : State, t.heap = H' → s.WarmedH t.vm → xQc sz0 H00 scr dC dI cA tk post (as.map (cv sz0 tk)).toArray s (.returned (r.map (cv sz0 tk))) t := fun t ht _ => ⟨r, I', L', G', rfl, by rw [ht]; exact hH', by rw [ht]; exact hS'.1, hp⟩
    rcases hins with ⟨rfl, a, rfl, hty⟩ | ⟨rfl, hty, a, rfl⟩ | ⟨rfl, ⟨t, hty, ht⟩, a, rfl⟩ | ⟨rfl, hty, rfl⟩
    · rcases hty with hty | ⟨hty, ha⟩
      · exact W.iret (v := Int32.ofInt a) hB.1 hB.2.1 (by rw [B.returns, hty]) hq hS'.2.2 hd (hlocks := B.notSynchronized)
      · exact W.zret (v := Int32.ofInt a) (ty := .boolean) hB.1 hB.2.1 (by rw [B.returns, hty]) (xnar_z ha) hq hS'.2.2 hd (hlocks := B.notSynchronized)
    · exact W.lret (v := a) hB.1 hB.2.1 (by rw [B.returns, hty]) hq hS'.2.2 hd (hlocks := B.notSynchronized)
    · exact W.aret (v := cv sz0 tk (xr a)) (rt := t) hB.1 hB.2.1 (by rw [B.returns, hty]) ht (by cases a with
        | none => exact Or.inl rfl
        | some i => exact Or.inr ⟨_, rfl⟩) hq hS'.2.2 hd (hlocks := B.notSynchronized)
    · exact W.vret hB.1 hB.2.1 (by rw [B.returns, hty]) hq hS'.2.2 hd (hlocks := B.notSynchronized)
  have := h rfl p e (headSpec (xws m) ({ frames := d, cells := c, slots := s0, locals := 40 * d } : Room)).room s mi (as.map (cv sz0 tk)).toArray below meth cd s.heap [] 0 0 c s0 ((lg_sl (as.map (cv sz0 tk)) ++ List.replicate (mL m - (lg_sl (as.map (cv sz0 tk))).length) Slot.unset).toArray) _ hB hC ⟨Nat.le_refl _, Nat.le_refl _, rfl, rfl, by omega, by omega⟩ hsz va_S.rf hH (xent_has hlen) hret
  rw [hpc] at this
  exact this
theorem xcallK {l : Launch} {sz0 : Nat} {H00 : Heap} {scr : (Int → Int) × Nat} {dC : Nat → ClassId} {dI : Nat → Nat → Nat} {cA : Nat → ClassId} {tk : Nat → Nat} {xStr : State → Prop} {Y : XX} {d m : Nat} {es : List XE} {ls : List XV} {I : XI} {L : XL} {G : XG} {c s0 : Nat} {post : XQ} {p : Program} {e : Env} {R : Room} {s : State} {mi : MethodId} {args : Array Value} {below : List Frame} {meth : Method} {cd : Code} {H : Heap} {locs : List Loc} {cells slots mc ms : Nat} {arr : Array Slot} {Q : State → Prop} {pc k : Nat} {st0 : List Value} {a : Array Value} {c1 s1 : Nat} {Q1 : XQ} {tl : List XV} (C : xCx l sz0 H00 scr dC dI cA tk xStr Y d m es ls I L G c s0 post p e R s mi args below meth cd H locs cells slots mc ms arr Q) (hr : va_Run p l e R s mi args below meth cd H locs cells slots c1 s1 (F0 mi pc arr st0) (tl.map (cv sz0 tk)) (xQc sz0 H00 scr dC dI cA tk Q1 a) (fun q => sz0 ≤ q)) (hc1 : c1 ≤ c) (hs1 : s1 ≤ s0) (hf : pcO es (k + 1) = some (pc + 3)) (hq : ∀ (r : Option XV) (I' : XI) (L' : XL) (G' : XG), Q1 r I' L' G' → Y d m es (k + 1) ls (r.toList ++ tl) I' L' G' (c - c1) (s0 - s1) post) : W p l e R s mi args below meth cd H locs cells slots Q (F0 mi pc arr st0) := by
  intro T hT X
  obtain ⟨v, st₀, t, T', L2, h0, X', hL, e1, e2, ⟨r, I', L', G', hv, hH', hsz', hQ⟩, stp⟩ := hr T hT X
  have hH := C.2.2.2.2.2.2.1
  have hS := C.2.2.2.2.2.1
  have hR := C.2.2.2.1.2.2.2.2
  have hsz := C.2.2.2.2.1
  cases hv
  rw [← e1] at hH'
  rw [h0, ← e1] at hsz'
  obtain ⟨t2, a1, b1⟩ := xgo C (st' := r.toList ++ tl) (H' := T'.heap) (locs' := locs ++ L2) (cells' := cells + c1) (slots' := slots + s1) (hq r I' L' G' hQ) hf ⟨Nat.le_trans hS.1 hsz', fun q g1 g2 => by
      have g3 : q < sz0 := Nat.not_le.mp g2
      rw [hH'.2.2.2.2.1 q g3, ← hH.2.2.2.2.1 q g3]
      exact hS.2.1 q g1 g2, fun q hq => by
      rcases List.mem_append.mp hq with h | h
      · exact hS.2.2 q h
      · exact hL q h⟩ hH' C.2.2.2.2.2.2.2.1 (by omega) (by omega) T' rfl X'
  refine ⟨t2, stp t2 ?_, b1⟩
  have e3 : (r.map (cv sz0 tk)).toList ++ tl.map (cv sz0 tk) = (r.toList ++ tl).map (cv sz0 tk) := by cases r <;> simp
  rw [e3]
  exact a1
theorem mTy_eq {m' : Nat} (h : m' < 264) : mTy m' = mY m' := by
  unfold mTy
  rw [if_neg (by omega), if_neg (by omega), if_neg (by omega), if_neg (by omega), if_neg (by omega), if_neg (by omega)]
theorem xs_callS {l : Launch} {sz0 : Nat} {H00 : Heap} {scr : (Int → Int) × Nat} {dC : Nat → ClassId} {dI : Nat → Nat → Nat} {cA : Nat → ClassId} {tk : Nat → Nat} {xStr : State → Prop} {Y : XX} {d m : Nat} {es : List XE} {k : Nat} {ls st : List XV} {I : XI} {L : XL} {G : XG} {c s0 : Nat} {post : XQ} {p : Program} {e : Env} {R : Room} {s : State} {mi : MethodId} {args : Array Value} {below : List Frame} {meth : Method} {cd : Code} {H : Heap} {locs : List Loc} {cells slots mc ms : Nat} {arr : Array Slot} {Q : State → Prop} {pc idx m' n j rt c1 s1 kd pp : Nat} (C : xCx l sz0 H00 scr dC dI cA tk xStr Y d m es ls I L G c s0 post p e R s mi args below meth cd H locs cells slots mc ms arr Q) (hd : decode (mC m) pc = .ok (.invokestatic idx, 3)) (hf : pcO es (k + 1) = some (pc + 3)) (hk : mT[j]? = some (mO m, idx, m', pp, 0)) (hm' : m' < 264) (hkd : (mW m').2.2.2.2 = 1) (hn : n = mN m') (h : xcall Y d m es k [m', n, j, rt, c1, s1, kd] ls st I L G c s0 post) : W p l e R s mi args below meth cd H locs cells slots Q (F0 mi pc arr (st.map (cv sz0 tk))) := by
  have hx := C.2.1.1
  have hb := C.2.1.2.1
  simp only [xcall] at h
  have hH := C.2.2.2.2.2.2.1
  have hK := C.2.2.1.1
  have hts := C.2.1.2.2.2.2.1
  have hown := C.2.1.2.2.2.1
  have hR := C.2.2.2.1
  have hX := C.1.2.2
  obtain ⟨⟨hlen, hent, hrt, -⟩, ⟨hd1, hc1, hs1, hw⟩, Q1, hy, hq⟩ := h
  have hsim := C.1.2.1 _ _ _ _ _ _ _ _ _ _ _ _ hy
  have hM := xMet hX hm' hsim hent
  obtain ⟨w1, w2, w3, w4, w5, w6, w7, w8, w9, w10⟩ := mWp hm'
  have hini : (Cond.initialized (mY m').cls).before args s = true := hts _ (lw_g_of w3 rfl)
  have hst : st.map (cv sz0 tk) = (((st.take n).reverse).map (cv sz0 tk)).reverse ++ (st.drop n).map (cv sz0 tk) := by
    rw [← List.map_reverse, List.reverse_reverse, ← List.map_append, List.take_append_drop]
  have hblind : FrameBlind (va_Pc (((st.take n).reverse).map (cv sz0 tk)) (fun U => xHp sz0 H00 scr dC dI cA I L G U.heap ∧ xCt sz0 H00 scr dC dI cA tk xStr U)) := fun a U g mk q => ⟨q.1, q.2.1, xCt.same (s := U) (U := U.calling g mk a) hX rfl q.2.2⟩
  have hpre : ∀ U : State, U.heap = H → s.WarmedH U.vm → xHp sz0 H00 scr dC dI cA I L G U.heap ∧ xCt sz0 H00 scr dC dI cA tk xStr U := fun U hU hW => ⟨by rw [hU]; exact hH, C.2.2.1.warm hX hW⟩
  have hroom : (d - 1) + 1 ≤ R.frames ∧ 8 + (mL m' + 11) + 40 * (d - 1) ≤ R.locals := ⟨by omega, by omega⟩
  have hfix : CallFix p mi cd (mC m) (mL m) s args lw_g (cn (mO m)) := ⟨hx, hb, C.2.1.2.2.1, hown, hts⟩
  have hsize := C.2.2.2.2.2.2.2.1.2.1
  have hWd := lv_room (m := mi) (pc := pc) (ls := arr) (rest := st.map (cv sz0 tk)) (st := (st.drop n).map (cv sz0 tk)) (by rw [xwds_cat]; exact hw)
  have hl : Cond.methodLink (cn (mO m)) idx (mTy m') ∈ lw_g := mT_in hk rfl
  have hmt : mTy m' = mY m' := mTy_eq hm'
  rw [hmt] at hl
  rw [if_pos hkd] at w1
  have cb := callB_of (R := R) (rm := ({ frames := d - 1, cells := c1, slots := s1, locals := 40 * (d - 1) } : Room)) (own := cn (mO m)) (index := idx) (mN m') hts (xws_good hm') rfl rfl rfl hini (hts _ hl) ⟨w6, w7, w8⟩ hroom
  have hr := va_runS (l := l) (e := e) (below := below) (meth := meth) (H := H) (locs := locs) (cells := cells) (slots := slots) (As := ((st.take n).reverse).map (cv sz0 tk)) (rest := (st.drop n).map (cv sz0 tk)) (g := F0 mi pc arr (st.map (cv sz0 tk))) hfix hM ⟨cb, hts _ (lw_g_of w1 rfl)⟩ ⟨hblind, fun U hU hW => ⟨rfl, hpre U hU hW⟩⟩ rfl (by simp; omega) hsize hst hWd hd ⟨by omega, by omega⟩
  exact xcallK C hr hc1 hs1 hf hq
theorem xs_callV {l : Launch} {sz0 : Nat} {H00 : Heap} {scr : (Int → Int) × Nat} {dC : Nat → ClassId} {dI : Nat → Nat → Nat} {cA : Nat → ClassId} {tk : Nat → Nat} {xStr : State → Prop} {Y : XX} {d m : Nat} {es : List XE} {k : Nat} {ls st : List XV} {I : XI} {L : XL} {G : XG} {c s0 : Nat} {post : XQ} {p : Program} {e : Env} {R : Room} {s : State} {mi : MethodId} {args : Array Value} {below : List Frame} {meth : Method} {cd : Code} {H : Heap} {locs : List Loc} {cells slots mc ms : Nat} {arr : Array Slot} {Q : State → Prop} {pc idx m' n j rt c1 s1 kd pp : Nat} (C : xCx l sz0 H00 scr dC dI cA tk xStr Y d m es ls I L G c s0 post p e R s mi args below meth cd H locs cells slots mc ms arr Q) (hd : decode (mC m) pc = .ok (.invokevirtual idx, 3)) (hf : pcO es (k + 1) = some (pc + 3)) (hk : mT[j]? = some (mO m, idx, m', pp, 0)) (hm' : m' < 264) (hkd : (mW m').2.2.2.2 = 0) (hn : n = mN m' + 1) (hrt2 : rt = mO m' + 1) (hmO : mO m' < 13) (h : xcall Y d m es k [m', n, j, rt, c1, s1, kd] ls st I L G c s0 post) : W p l e R s mi args below meth cd H locs cells slots Q (F0 mi pc arr (st.map (cv sz0 tk))) := by
  have hx := C.2.1.1
  have hb := C.2.1.2.1
  simp only [xcall] at h
  have hH := C.2.2.2.2.2.2.1
  have hK := C.2.2.1.1
  have hts := C.2.1.2.2.2.2.1
  have hown := C.2.1.2.2.2.1
  have hR := C.2.2.2.1
  have hX := C.1.2.2
  obtain ⟨⟨hlen, hent, hrt, -⟩, ⟨hd1, hc1, hs1, hw⟩, Q1, hy, hq⟩ := h
  have hsim := C.1.2.1 _ _ _ _ _ _ _ _ _ _ _ _ hy
  have hM := xMet hX hm' hsim hent
  obtain ⟨w1, w2, w3, w4, w5, w6, w7, w8, w9, w10⟩ := mWp hm'
  have hini : (Cond.initialized (mY m').cls).before args s = true := hts _ (lw_g_of w3 rfl)
  have hst : st.map (cv sz0 tk) = (((st.take n).reverse).map (cv sz0 tk)).reverse ++ (st.drop n).map (cv sz0 tk) := by
    rw [← List.map_reverse, List.reverse_reverse, ← List.map_append, List.take_append_drop]
  have hblind : FrameBlind (va_Pc (((st.take n).reverse).map (cv sz0 tk)) (fun U => xHp sz0 H00 scr dC dI cA I L G U.heap ∧ xCt sz0 H00 scr dC dI cA tk xStr U)) := fun a U g mk q => ⟨q.1, q.2.1, xCt.same (s := U) (U := U.calling g mk a) hX rfl q.2.2⟩
  have hpre : ∀ U : State, U.heap = H → s.WarmedH U.vm → xHp sz0 H00 scr dC dI cA I L G U.heap ∧ xCt sz0 H00 scr dC dI cA tk xStr U := fun U hU hW => ⟨by rw [hU]; exact hH, C.2.2.1.warm hX hW⟩
  have hroom : (d - 1) + 1 ≤ R.frames ∧ 8 + (mL m' + 11) + 40 * (d - 1) ≤ R.locals := ⟨by omega, by omega⟩
  have hfix : CallFix p mi cd (mC m) (mL m) s args lw_g (cn (mO m)) := ⟨hx, hb, C.2.1.2.2.1, hown, hts⟩
  have hsize := C.2.2.2.2.2.2.2.1.2.1
  have hWd := lv_room (m := mi) (pc := pc) (ls := arr) (rest := st.map (cv sz0 tk)) (st := (st.drop n).map (cv sz0 tk)) (by rw [xwds_cat]; exact hw)
  rcases hrt with hrt | ⟨i, hi, htag⟩
  · omega
  have hn1 : 1 ≤ n := by omega
  have hcons : (st.take n).reverse = xr (some i) :: (st.take (n - 1)).reverse := by
    have e1 : st.take n = st.take (n - 1) ++ [xr (some i)] := by
      have := List.take_add_one (l := st) (i := n - 1)
      rw [show n - 1 + 1 = n by omega] at this
      rw [this, hi]
      rfl
    rw [e1, List.reverse_append]
    rfl
  have hst2 : st.map (cv sz0 tk) = (((st.take (n - 1)).reverse).map (cv sz0 tk)).reverse ++ .ref (sz0 + i) :: (st.drop n).map (cv sz0 tk) := by
    rw [hst, hcons, List.map_cons, List.reverse_cons, List.append_assoc]
    rfl
  rw [hcons] at hM hblind
  have hlen2 : (((st.take (n - 1)).reverse).map (cv sz0 tk)).length = mN m' := by simp; omega
  rw [hrt2] at htag
  obtain ⟨hiN, he⟩ := xHp_obj hH htag hmO
  have hl : Cond.methodLink (cn (mO m)) idx (mTy m') ∈ lw_g := mT_in hk rfl
  have hmt : mTy m' = mY m' := mTy_eq hm'
  rw [hmt] at hl
  rw [if_neg (by omega)] at w1
  have w2 := w2.resolve_left (by omega)
  have cb := callB_of (R := R) (rm := ({ frames := d - 1, cells := c1, slots := s1, locals := 40 * (d - 1) } : Room)) (own := cn (mO m)) (index := idx) (mN m') hts (xws_good hm') rfl rfl rfl hini (hts _ hl) ⟨w6, w7, w8⟩ hroom
  have hrecv := va_recv hK hH.2.2.2.1 (xcls_at hmO) he
  have hr := va_runV (l := l) (e := e) (below := below) (meth := meth) (locs := locs) (cells := cells) (slots := slots) (b := sz0 + i) (As := ((st.take (n - 1)).reverse).map (cv sz0 tk)) (rest := (st.drop n).map (cv sz0 tk)) (g := F0 mi pc arr (st.map (cv sz0 tk))) (C := (mY m').cls) hfix hM ⟨cb, hts _ (lw_g_of w1 rfl), hts _ (lw_g_of w2 rfl)⟩ ⟨hblind, by rw [w4]; exact hrecv, fun U hU hW => ⟨rfl, hpre U hU hW⟩⟩ rfl hlen2 hsize hst2 hWd hd ⟨by omega, by omega⟩
  exact xcallK C hr hc1 hs1 hf hq
theorem xs_callI {l : Launch} {sz0 : Nat} {H00 : Heap} {scr : (Int → Int) × Nat} {dC : Nat → ClassId} {dI : Nat → Nat → Nat} {cA : Nat → ClassId} {tk : Nat → Nat} {xStr : State → Prop} {Y : XX} {d m : Nat} {es : List XE} {k : Nat} {ls st : List XV} {I : XI} {L : XL} {G : XG} {c s0 : Nat} {post : XQ} {p : Program} {e : Env} {R : Room} {s : State} {mi : MethodId} {args : Array Value} {below : List Frame} {meth : Method} {cd : Code} {H : Heap} {locs : List Loc} {cells slots mc ms : Nat} {arr : Array Slot} {Q : State → Prop} {pc idx m' n j rt c1 s1 kd pp : Nat} (C : xCx l sz0 H00 scr dC dI cA tk xStr Y d m es ls I L G c s0 post p e R s mi args below meth cd H locs cells slots mc ms arr Q) (hd : decode (mC m) pc = .ok (.invokespecial idx, 3)) (hf : pcO es (k + 1) = some (pc + 3)) (hk : mT[j]? = some (mO m, idx, m', pp, 0)) (hm' : m' < 264) (hkd : (mW m').2.2.2.2 = 2) (hn : n = mN m' + 1) (hrt2 : rt = mO m' + 1) (hmO : mO m' < 13) (h : xcall Y d m es k [m', n, j, rt, c1, s1, kd] ls st I L G c s0 post) : W p l e R s mi args below meth cd H locs cells slots Q (F0 mi pc arr (st.map (cv sz0 tk))) := by
  have hx := C.2.1.1
  have hb := C.2.1.2.1
  simp only [xcall] at h
  have hH := C.2.2.2.2.2.2.1
  have hK := C.2.2.1.1
  have hts := C.2.1.2.2.2.2.1
  have hown := C.2.1.2.2.2.1
  have hR := C.2.2.2.1
  have hX := C.1.2.2
  obtain ⟨⟨hlen, hent, hrt, -⟩, ⟨hd1, hc1, hs1, hw⟩, Q1, hy, hq⟩ := h
  have hsim := C.1.2.1 _ _ _ _ _ _ _ _ _ _ _ _ hy
  have hM := xMet hX hm' hsim hent
  obtain ⟨w1, w2, w3, w4, w5, w6, w7, w8, w9, w10⟩ := mWp hm'
  have hini : (Cond.initialized (mY m').cls).before args s = true := hts _ (lw_g_of w3 rfl)
  have hst : st.map (cv sz0 tk) = (((st.take n).reverse).map (cv sz0 tk)).reverse ++ (st.drop n).map (cv sz0 tk) := by
    rw [← List.map_reverse, List.reverse_reverse, ← List.map_append, List.take_append_drop]
  have hblind : FrameBlind (va_Pc (((st.take n).reverse).map (cv sz0 tk)) (fun U => xHp sz0 H00 scr dC dI cA I L G U.heap ∧ xCt sz0 H00 scr dC dI cA tk xStr U)) := fun a U g mk q => ⟨q.1, q.2.1, xCt.same (s := U) (U := U.calling g mk a) hX rfl q.2.2⟩
  have hpre : ∀ U : State, U.heap = H → s.WarmedH U.vm → xHp sz0 H00 scr dC dI cA I L G U.heap ∧ xCt sz0 H00 scr dC dI cA tk xStr U := fun U hU hW => ⟨by rw [hU]; exact hH, C.2.2.1.warm hX hW⟩
  have hroom : (d - 1) + 1 ≤ R.frames ∧ 8 + (mL m' + 11) + 40 * (d - 1) ≤ R.locals := ⟨by omega, by omega⟩
  have hfix : CallFix p mi cd (mC m) (mL m) s args lw_g (cn (mO m)) := ⟨hx, hb, C.2.1.2.2.1, hown, hts⟩
  have hsize := C.2.2.2.2.2.2.2.1.2.1
  have hWd := lv_room (m := mi) (pc := pc) (ls := arr) (rest := st.map (cv sz0 tk)) (st := (st.drop n).map (cv sz0 tk)) (by rw [xwds_cat]; exact hw)
  rcases hrt with hrt | ⟨i, hi, htag⟩
  · omega
  have hn1 : 1 ≤ n := by omega
  have hcons : (st.take n).reverse = xr (some i) :: (st.take (n - 1)).reverse := by
    have e1 : st.take n = st.take (n - 1) ++ [xr (some i)] := by
      have := List.take_add_one (l := st) (i := n - 1)
      rw [show n - 1 + 1 = n by omega] at this
      rw [this, hi]
      rfl
    rw [e1, List.reverse_append]
    rfl
  have hst2 : st.map (cv sz0 tk) = (((st.take (n - 1)).reverse).map (cv sz0 tk)).reverse ++ .ref (sz0 + i) :: (st.drop n).map (cv sz0 tk) := by
    rw [hst, hcons, List.map_cons, List.reverse_cons, List.append_assoc]
    rfl
  rw [hcons] at hM hblind
  have hlen2 : (((st.take (n - 1)).reverse).map (cv sz0 tk)).length = mN m' := by simp; omega
  rw [hrt2] at htag
  obtain ⟨hiN, he⟩ := xHp_obj hH htag hmO
  have w10 := w10.resolve_left (by omega)
  rw [if_neg (by omega)] at w1
  have hmt : mTy m' = mY m' := mTy_eq hm'
  have hl : Cond.methodLink (cn (mO m)) idx (mTy m') ∈ lw_g := mT_in hk rfl
  rw [hmt] at hl
  have cb := callB_of (R := R) (rm := ({ frames := d - 1, cells := c1, slots := s1, locals := 40 * (d - 1) } : Room)) (own := cn (mO m)) (index := idx) (mN m') hts (xws_good hm') rfl rfl rfl hini (hts _ hl) ⟨w6, w7, w8⟩ hroom
  rw [w10.2] at cb
  have hr := va_runI (l := l) (e := e) (below := below) (meth := meth) (H := H) (locs := locs) (cells := cells) (slots := slots) (b := sz0 + i) (As := ((st.take (n - 1)).reverse).map (cv sz0 tk)) (rest := (st.drop n).map (cv sz0 tk)) (g := F0 mi pc arr (st.map (cv sz0 tk))) hfix hM ⟨cb, w10.1, hts _ (lw_g_of w1 rfl)⟩ ⟨hblind, fun U hU hW => ⟨rfl, hpre U hU hW⟩⟩ rfl hlen2 hsize hst2 hWd hd ⟨by omega, by omega⟩
  exact xcallK C hr hc1 hs1 hf hq
theorem xs_callN {l : Launch} {sz0 : Nat} {H00 : Heap} {scr : (Int → Int) × Nat} {dC : Nat → ClassId} {dI : Nat → Nat → Nat} {cA : Nat → ClassId} {tk : Nat → Nat} {xStr : State → Prop} {Y : XX} {d m : Nat} {es : List XE} {k : Nat} {ls st : List XV} {I : XI} {L : XL} {G : XG} {c s0 : Nat} {post : XQ} {p : Program} {e : Env} {R : Room} {s : State} {mi : MethodId} {args : Array Value} {below : List Frame} {meth : Method} {cd : Code} {H : Heap} {locs : List Loc} {cells slots mc ms : Nat} {arr : Array Slot} {Q : State → Prop} {pc idx m' n j rt c1 s1 kd pp : Nat} (C : xCx l sz0 H00 scr dC dI cA tk xStr Y d m es ls I L G c s0 post p e R s mi args below meth cd H locs cells slots mc ms arr Q) (hd : decode (mC m) pc = .ok (.invokespecial idx, 3)) (hf : pcO es (k + 1) = some (pc + 3)) (hk : mT[j]? = some (mO m, idx, m', pp, 1)) (hm' : m' < 264) (hkd : (mW m').2.2.2.2 = 2) (hn : n = mN m' + 1) (hrt2 : rt = mO m' + 1) (hmO : mO m' < 13) (h : xcall Y d m es k [m', n, j, rt, c1, s1, kd] ls st I L G c s0 post) : W p l e R s mi args below meth cd H locs cells slots Q (F0 mi pc arr (st.map (cv sz0 tk))) := by
  have hx := C.2.1.1
  have hb := C.2.1.2.1
  simp only [xcall] at h
  have hH := C.2.2.2.2.2.2.1
  have hK := C.2.2.1.1
  have hts := C.2.1.2.2.2.2.1
  have hown := C.2.1.2.2.2.1
  have hR := C.2.2.2.1
  have hX := C.1.2.2
  obtain ⟨⟨hlen, hent, hrt, -⟩, ⟨hd1, hc1, hs1, hw⟩, Q1, hy, hq⟩ := h
  have hsim := C.1.2.1 _ _ _ _ _ _ _ _ _ _ _ _ hy
  have hM := xMet hX hm' hsim hent
  obtain ⟨w1, w2, w3, w4, w5, w6, w7, w8, w9, w10⟩ := mWp hm'
  have hini : (Cond.initialized (mY m').cls).before args s = true := hts _ (lw_g_of w3 rfl)
  have hst : st.map (cv sz0 tk) = (((st.take n).reverse).map (cv sz0 tk)).reverse ++ (st.drop n).map (cv sz0 tk) := by
    rw [← List.map_reverse, List.reverse_reverse, ← List.map_append, List.take_append_drop]
  have hblind : FrameBlind (va_Pc (((st.take n).reverse).map (cv sz0 tk)) (fun U => xHp sz0 H00 scr dC dI cA I L G U.heap ∧ xCt sz0 H00 scr dC dI cA tk xStr U)) := fun a U g mk q => ⟨q.1, q.2.1, xCt.same (s := U) (U := U.calling g mk a) hX rfl q.2.2⟩
  have hpre : ∀ U : State, U.heap = H → s.WarmedH U.vm → xHp sz0 H00 scr dC dI cA I L G U.heap ∧ xCt sz0 H00 scr dC dI cA tk xStr U := fun U hU hW => ⟨by rw [hU]; exact hH, C.2.2.1.warm hX hW⟩
  have hroom : (d - 1) + 1 ≤ R.frames ∧ 8 + (mL m' + 11) + 40 * (d - 1) ≤ R.locals := ⟨by omega, by omega⟩
  have hfix : CallFix p mi cd (mC m) (mL m) s args lw_g (cn (mO m)) := ⟨hx, hb, C.2.1.2.2.1, hown, hts⟩
  have hsize := C.2.2.2.2.2.2.2.1.2.1
  have hWd := lv_room (m := mi) (pc := pc) (ls := arr) (rest := st.map (cv sz0 tk)) (st := (st.drop n).map (cv sz0 tk)) (by rw [xwds_cat]; exact hw)
  rcases hrt with hrt | ⟨i, hi, htag⟩
  · omega
  have hn1 : 1 ≤ n := by omega
  have hcons : (st.take n).reverse = xr (some i) :: (st.take (n - 1)).reverse := by
    have e1 : st.take n = st.take (n - 1) ++ [xr (some i)] := by
      have := List.take_add_one (l := st) (i := n - 1)
      rw [show n - 1 + 1 = n by omega] at this
      rw [this, hi]
      rfl
    rw [e1, List.reverse_append]
    rfl
  have hst2 : st.map (cv sz0 tk) = (((st.take (n - 1)).reverse).map (cv sz0 tk)).reverse ++ .ref (sz0 + i) :: (st.drop n).map (cv sz0 tk) := by
    rw [hst, hcons, List.map_cons, List.reverse_cons, List.append_assoc]
    rfl
  rw [hcons] at hM hblind
  have hlen2 : (((st.take (n - 1)).reverse).map (cv sz0 tk)).length = mN m' := by simp; omega
  rw [hrt2] at htag
  obtain ⟨hiN, he⟩ := xHp_obj hH htag hmO
  have w10 := w10.resolve_left (by omega)
  rw [if_neg (by omega)] at w1
  have hmt : mTy m' = mY m' := mTy_eq hm'
  have hl := C.2.2.1.2.1 _ (List.mem_of_getElem? hk) rfl
  rw [mTw_nest rfl] at hl
  have hl : va_Nw (.methodLinkNest (cn (mO m)) idx (mTy m') "RueCake") s := hl
  rw [hmt] at hl
  have cb := va_cnB (R := R) (rm := ({ frames := d - 1, cells := c1, slots := s1, locals := 40 * (d - 1) } : Room)) (mN m') hts (xws_good hm') rfl rfl rfl hl hini ⟨w6, w7, w8⟩ hroom
  rw [w10.2] at cb
  have hr := va_runIN (l := l) (e := e) (below := below) (meth := meth) (H := H) (locs := locs) (cells := cells) (slots := slots) (b := sz0 + i) (As := ((st.take (n - 1)).reverse).map (cv sz0 tk)) (rest := (st.drop n).map (cv sz0 tk)) (g := F0 mi pc arr (st.map (cv sz0 tk))) hfix hM ⟨cb, w10.1, hts _ (lw_g_of w1 rfl)⟩ ⟨hblind, fun U hU hW => ⟨rfl, hpre U hU hW⟩⟩ rfl hlen2 hsize hst2 hWd hd ⟨by omega, by omega⟩
  exact xcallK C hr hc1 hs1 hf hq
