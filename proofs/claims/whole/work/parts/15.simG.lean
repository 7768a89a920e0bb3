/-- what the rows of the names' text must be -/
def xStrRows (l : Launch) (sz0 : Nat) (H00 : Heap) (scr : (Int → Int) × Nat) (dC : Nat → ClassId) (dI : Nat → Nat → Nat) (cA : Nat → ClassId) (tk : Nat → Nat) (xStr : State → Prop) : Prop :=
  ∀ (p : Program) (e : Env) (R : Room) (s : State) (mi : MethodId) (args : Array Value) (below : List Frame) (meth : Method) (cd : Code) (H : Heap) (locs : List Loc) (cells slots : Nat) (Q : State → Prop) (m : Nat) (arr : Array Slot) (rest : List Value) (pc : Nat), xBase p s mi args meth cd m → xCt sz0 H00 scr dC dI cA tk xStr s → va_S (fun q => sz0 ≤ q) s.heap H locs → (∀ q, q < sz0 → H[q]? = H00[q]?) → arr.size = mL m → cells ≤ R.cells → slots ≤ R.slots →
    (mO m = 9 → decode (mC m) pc = .ok (.ldc 77, 2) → W p l e R s mi args below meth cd H locs cells slots Q (F0 mi (pc + 2) arr (.ref (tk 1) :: rest)) → W p l e R s mi args below meth cd H locs cells slots Q (F0 mi pc arr rest)) ∧
    (∀ idx : Nat, decode (mC m) pc = .ok (.invokevirtual idx, 3) → 8 ≤ R.frames → 320 ≤ R.locals → (rest.map fun v => v.category).sum ≤ 8 → Cond.methodLink (cn (mO m)) idx ⟨"java/lang/String", "length", "()I"⟩ ∈ lw_g → W p l e R s mi args below meth cd H locs cells slots Q (F0 mi (pc + 3) arr (.int (Int32.ofInt 126) :: rest)) → W p l e R s mi args below meth cd H locs cells slots Q (F0 mi pc arr (.ref (tk 1) :: rest))) ∧
    (∀ (idx : Nat) (a : Int), decode (mC m) pc = .ok (.invokevirtual idx, 3) → 8 ≤ R.frames → 320 ≤ R.locals → (rest.map fun v => v.category).sum ≤ 8 → Cond.methodLink (cn (mO m)) idx ⟨"java/lang/String", "charAt", "(I)C"⟩ ∈ lw_g → 0 ≤ a → a < 126 → W p l e R s mi args below meth cd H locs cells slots Q (F0 mi (pc + 3) arr (.int (Int32.ofInt (xch a)) :: rest)) → W p l e R s mi args below meth cd H locs cells slots Q (F0 mi pc arr (.int (Int32.ofInt a) :: .ref (tk 1) :: rest)))
theorem ok1 {es : List XE} {k pc len n : Nat} {ins : Instr} {ns : List Nat} {vs : List Int} (h : (okF es k (pc, len, ins, ns, vs) && decide (len = n)) = true) : len = n ∧ pcO es (k + 1) = some (pc + len) := by
  simp only [okF, Bool.and_eq_true, decide_eq_true_eq] at h
  exact ⟨h.2, h.1⟩
theorem okT_p {es : List XE} {pc len t : Nat} {off : Int} {ins : Instr} {ns : List Nat} {vs : List Int} (h : okT es (pc, len, ins, ns, vs) off t = true) : ∃ pt, pcO es t = some pt ∧ (pc : Int) + off = (pt : Int) := by
  unfold okT at h
  cases hq : pcO es t with
  | none => rw [hq] at h; cases h
  | some q =>
    rw [hq] at h
    exact ⟨q, rfl, of_decide_eq_true h⟩
theorem xop_iret0 {Y : XX} {d m : Nat} {es : List XE} {k : Nat} {ls st : List XV} {I : XI} {L : XL} {G : XG} {c s0 : Nat} {post : XQ} {vs : List Int} (h : xop Y d m es k .ireturn [0] vs ls st I L G c s0 post) : ∃ a, st = [xi a] ∧ post (some (xi a)) I L G := by
  simp only [xop] at h
  split at h
  · rename_i heq; cases heq
  · exact ⟨_, rfl, h⟩
  · exact h.elim
theorem xop_iret1 {Y : XX} {d m : Nat} {es : List XE} {k : Nat} {ls st : List XV} {I : XI} {L : XL} {G : XG} {c s0 : Nat} {post : XQ} {vs : List Int} (h : xop Y d m es k .ireturn [1] vs ls st I L G c s0 post) : ∃ a, st = [xi a] ∧ (a = 0 ∨ a = 1) ∧ post (some (xi a)) I L G := by
  simp only [xop] at h
  split at h
  · exact ⟨_, rfl, h.1, h.2⟩
  · rename_i heq; cases heq
  · exact h.elim
theorem xop_lret {Y : XX} {d m : Nat} {es : List XE} {k : Nat} {ls st : List XV} {I : XI} {L : XL} {G : XG} {c s0 : Nat} {post : XQ} {ns : List Nat} {vs : List Int} (h : xop Y d m es k .lreturn ns vs ls st I L G c s0 post) : ∃ a, st = [xl a] ∧ post (some (xl a)) I L G := by
  simp only [xop] at h
  split at h
  · exact ⟨_, rfl, h⟩
  · exact h.elim
theorem xop_aret {Y : XX} {d m : Nat} {es : List XE} {k : Nat} {ls st : List XV} {I : XI} {L : XL} {G : XG} {c s0 : Nat} {post : XQ} {ns : List Nat} {vs : List Int} (h : xop Y d m es k .areturn ns vs ls st I L G c s0 post) : ∃ a, st = [xr a] ∧ post (some (xr a)) I L G := by
  simp only [xop] at h
  split at h
  · exact ⟨_, rfl, h⟩
  · exact h.elim
theorem xop_vret {Y : XX} {d m : Nat} {es : List XE} {k : Nat} {ls st : List XV} {I : XI} {L : XL} {G : XG} {c s0 : Nat} {post : XQ} {ns : List Nat} {vs : List Int} (h : xop Y d m es k .return_ ns vs ls st I L G c s0 post) : st = [] ∧ post none I L G := by
  simp only [xop] at h
  split at h
  · exact ⟨rfl, h⟩
  · exact h.elim
theorem xs_IS {l : Launch} {sz0 : Nat} {H00 : Heap} {scr : (Int → Int) × Nat} {dC : Nat → ClassId} {dI : Nat → Nat → Nat} {cA : Nat → ClassId} {tk : Nat → Nat} {xStr : State → Prop} {Y : XX} {d m : Nat} {es : List XE} {k : Nat} {ls st : List XV} {I : XI} {L : XL} {G : XG} {c s0 : Nat} {post : XQ} {p : Program} {e : Env} {R : Room} {s : State} {mi : MethodId} {args : Array Value} {below : List Frame} {meth : Method} {cd : Code} {H : Heap} {locs : List Loc} {cells slots mc ms : Nat} {arr : Array Slot} {Q : State → Prop} {pc len idx : Nat} {ns : List Nat} {vs : List Int} (C : xCx l sz0 H00 scr dC dI cA tk xStr Y d m es ls I L G c s0 post p e R s mi args below meth cd H locs cells slots mc ms arr Q)  (hd : decode (mC m) pc = .ok (.invokestatic idx, len)) (hok : okI m es k (pc, len, .invokestatic idx, ns, vs) = true) (h : xop Y d m es k (.invokestatic idx) ns vs ls st I L G c s0 post) : W p l e R s mi args below meth cd H locs cells slots Q (F0 mi pc arr (st.map (cv sz0 tk))) := by
  simp only [okI, okF, Bool.and_eq_true, decide_eq_true_eq] at hok
  obtain ⟨⟨hf, rfl⟩, h2⟩ := hok
  split at h2
  · rename_i j
    unfold okS at h2
    cases hk : mT[j]? with
    | none => rw [hk] at h2; cases h2
    | some q =>
      obtain ⟨o1, i1, y1, pp, n1⟩ := q
      rw [hk] at h2
      simp only [Bool.and_eq_true, decide_eq_true_eq] at h2
      obtain ⟨⟨⟨rfl, rfl⟩, rfl⟩, rfl⟩ := h2
      exact xs_arraycopy C hd hf hk h
  · rename_i j
    unfold okS at h2
    cases hk : mT[j]? with
    | none => rw [hk] at h2; cases h2
    | some q =>
      obtain ⟨o1, i1, y1, pp, n1⟩ := q
      rw [hk] at h2
      simp only [Bool.and_eq_true, decide_eq_true_eq] at h2
      obtain ⟨⟨⟨rfl, rfl⟩, rfl⟩, rfl⟩ := h2
      exact xs_mmax C hd hf hk h
  · rename_i j
    unfold okS at h2
    cases hk : mT[j]? with
    | none => rw [hk] at h2; cases h2
    | some q =>
      obtain ⟨o1, i1, y1, pp, n1⟩ := q
      rw [hk] at h2
      simp only [Bool.and_eq_true, decide_eq_true_eq] at h2
      obtain ⟨⟨⟨rfl, rfl⟩, rfl⟩, rfl⟩ := h2
      exact xs_mmin C hd hf hk h
  · rename_i hno
    have hc : xcall Y d m es k ns ls st I L G c s0 post := by
      simp only [xop] at h
      exact h
    simp only [Bool.and_eq_true] at h2
    obtain ⟨h2, h3⟩ := h2
    unfold okC at h2
    split at h2
    · rename_i m' n' j rt c1 s1 kd xx yy
      cases hk : mT[j]? with
      | none => rw [hk] at h2; cases h2
      | some q =>
        obtain ⟨o1, i1, y1, pp, nest⟩ := q
        rw [hk] at h2
        simp only [Bool.and_eq_true, decide_eq_true_eq] at h2
        obtain ⟨⟨⟨⟨rfl, rfl⟩, rfl⟩, hm'⟩, h2⟩ := h2
        match kd, h2, h3, hc with
        | 0, h2, _, hc =>
          simp only [Bool.and_eq_true, decide_eq_true_eq] at h2
          obtain ⟨⟨⟨g1, g2⟩, rfl⟩, rfl⟩ := h2
          exact xs_callS C hd hf hk hm' g1 g2 hc
        | 1, _, h3, _ => cases h3
        | 2, _, h3, _ => cases h3
        | 3, _, h3, _ => cases h3
        | kd + 4, h2, _, _ => cases h2
    · cases h2
theorem xs_IV {l : Launch} {sz0 : Nat} {H00 : Heap} {scr : (Int → Int) × Nat} {dC : Nat → ClassId} {dI : Nat → Nat → Nat} {cA : Nat → ClassId} {tk : Nat → Nat} {xStr : State → Prop} {Y : XX} {d m : Nat} {es : List XE} {k : Nat} {ls st : List XV} {I : XI} {L : XL} {G : XG} {c s0 : Nat} {post : XQ} {p : Program} {e : Env} {R : Room} {s : State} {mi : MethodId} {args : Array Value} {below : List Frame} {meth : Method} {cd : Code} {H : Heap} {locs : List Loc} {cells slots mc ms : Nat} {arr : Array Slot} {Q : State → Prop} {pc len idx : Nat} {ns : List Nat} {vs : List Int} (C : xCx l sz0 H00 scr dC dI cA tk xStr Y d m es ls I L G c s0 post p e R s mi args below meth cd H locs cells slots mc ms arr Q) (hSR : xStrRows l sz0 H00 scr dC dI cA tk xStr) (hd : decode (mC m) pc = .ok (.invokevirtual idx, len)) (hok : okI m es k (pc, len, .invokevirtual idx, ns, vs) = true) (h : xop Y d m es k (.invokevirtual idx) ns vs ls st I L G c s0 post) : W p l e R s mi args below meth cd H locs cells slots Q (F0 mi pc arr (st.map (cv sz0 tk))) := by
  simp only [okI, okF, Bool.and_eq_true, decide_eq_true_eq] at hok
  obtain ⟨⟨hf, rfl⟩, h2⟩ := hok
  split at h2
  · simp only [Bool.and_eq_true, decide_eq_true_eq] at h2
    exact xs_clone C hd hf h2.1 h2.2 h
  · rename_i j
    unfold okS at h2
    cases hk : mT[j]? with
    | none => rw [hk] at h2; cases h2
    | some q =>
      obtain ⟨o1, i1, y1, pp, n1⟩ := q
      rw [hk] at h2
      simp only [Bool.and_eq_true, decide_eq_true_eq] at h2
      obtain ⟨⟨⟨rfl, rfl⟩, rfl⟩, rfl⟩ := h2
      have hm := C.2.2.2.1
      have hH := C.2.2.2.2.2.2.1
      simp only [xop] at h
      split at h
      · rename_i r
        obtain ⟨⟨hd8, hw⟩, h⟩ := h
        exact (hSR p e R s mi args below meth cd H locs cells slots Q m arr (r.map (cv sz0 tk)) pc C.2.1 C.2.2.1 C.2.2.2.2.2.1 hH.2.2.2.2.1 C.2.2.2.2.2.2.2.1.2.1 (by omega) (by omega)).2.1 _ hd (by omega) (by omega) (by rw [xwds_cat]; exact hw) (mT_in hk rfl) (xgo0 C (st' := xi 126 :: r) h hf)
      · exact h.elim
  · rename_i j
    unfold okS at h2
    cases hk : mT[j]? with
    | none => rw [hk] at h2; cases h2
    | some q =>
      obtain ⟨o1, i1, y1, pp, n1⟩ := q
      rw [hk] at h2
      simp only [Bool.and_eq_true, decide_eq_true_eq] at h2
      obtain ⟨⟨⟨rfl, rfl⟩, rfl⟩, rfl⟩ := h2
      have hm := C.2.2.2.1
      have hH := C.2.2.2.2.2.2.1
      simp only [xop] at h
      split at h
      · rename_i a r
        obtain ⟨⟨hd8, hw, h0, h1⟩, h⟩ := h
        exact (hSR p e R s mi args below meth cd H locs cells slots Q m arr (r.map (cv sz0 tk)) pc C.2.1 C.2.2.1 C.2.2.2.2.2.1 hH.2.2.2.2.1 C.2.2.2.2.2.2.2.1.2.1 (by omega) (by omega)).2.2 _ a hd (by omega) (by omega) (by rw [xwds_cat]; exact hw) (mT_in hk rfl) h0 h1 (xgo0 C (st' := xi (xch a) :: r) h hf)
      · exact h.elim
  · rename_i hno
    have hc : xcall Y d m es k ns ls st I L G c s0 post := by
      simp only [xop] at h
      exact h
    simp only [Bool.and_eq_true] at h2
    obtain ⟨h2, h3⟩ := h2
    unfold okC at h2
    split at h2
    · rename_i m' n' j rt c1 s1 kd xx yy
      cases hk : mT[j]? with
      | none => rw [hk] at h2; cases h2
      | some q =>
        obtain ⟨o1, i1, y1, pp, nest⟩ := q
        rw [hk] at h2
        simp only [Bool.and_eq_true, decide_eq_true_eq] at h2
        obtain ⟨⟨⟨⟨rfl, rfl⟩, rfl⟩, hm'⟩, h2⟩ := h2
        match kd, h2, h3, hc with
        | 1, h2, _, hc =>
          simp only [Bool.and_eq_true, decide_eq_true_eq] at h2
          obtain ⟨⟨⟨⟨g1, g2⟩, g3⟩, g4⟩, rfl⟩ := h2
          exact xs_callV C hd hf hk hm' g1 g2 g3 g4 hc
        | 0, _, h3, _ => cases h3
        | 2, _, h3, _ => cases h3
        | 3, _, h3, _ => cases h3
        | kd + 4, h2, _, _ => cases h2
    · cases h2
theorem xs_IP {l : Launch} {sz0 : Nat} {H00 : Heap} {scr : (Int → Int) × Nat} {dC : Nat → ClassId} {dI : Nat → Nat → Nat} {cA : Nat → ClassId} {tk : Nat → Nat} {xStr : State → Prop} {Y : XX} {d m : Nat} {es : List XE} {k : Nat} {ls st : List XV} {I : XI} {L : XL} {G : XG} {c s0 : Nat} {post : XQ} {p : Program} {e : Env} {R : Room} {s : State} {mi : MethodId} {args : Array Value} {below : List Frame} {meth : Method} {cd : Code} {H : Heap} {locs : List Loc} {cells slots mc ms : Nat} {arr : Array Slot} {Q : State → Prop} {pc len idx : Nat} {ns : List Nat} {vs : List Int} (C : xCx l sz0 H00 scr dC dI cA tk xStr Y d m es ls I L G c s0 post p e R s mi args below meth cd H locs cells slots mc ms arr Q)  (hd : decode (mC m) pc = .ok (.invokespecial idx, len)) (hok : okI m es k (pc, len, .invokespecial idx, ns, vs) = true) (h : xop Y d m es k (.invokespecial idx) ns vs ls st I L G c s0 post) : W p l e R s mi args below meth cd H locs cells slots Q (F0 mi pc arr (st.map (cv sz0 tk))) := by
  simp only [okI, okF, Bool.and_eq_true, decide_eq_true_eq] at hok
  obtain ⟨⟨hf, rfl⟩, h2⟩ := hok
  split at h2
  · rename_i j
    unfold okS at h2
    cases hk : mT[j]? with
    | none => rw [hk] at h2; cases h2
    | some q =>
      obtain ⟨o1, i1, y1, pp, n1⟩ := q
      rw [hk] at h2
      simp only [Bool.and_eq_true, decide_eq_true_eq] at h2
      obtain ⟨⟨⟨rfl, rfl⟩, rfl⟩, rfl⟩ := h2
      exact xs_objInit C hd hf hk h
  · rename_i hno
    have hc : xcall Y d m es k ns ls st I L G c s0 post := by
      simp only [xop] at h
      exact h
    simp only [Bool.and_eq_true] at h2
    obtain ⟨h2, h3⟩ := h2
    unfold okC at h2
    split at h2
    · rename_i m' n' j rt c1 s1 kd 
      cases hk : mT[j]? with
      | none => rw [hk] at h2; cases h2
      | some q =>
        obtain ⟨o1, i1, y1, pp, nest⟩ := q
        rw [hk] at h2
        simp only [Bool.and_eq_true, decide_eq_true_eq] at h2
        obtain ⟨⟨⟨⟨rfl, rfl⟩, rfl⟩, hm'⟩, h2⟩ := h2
        match kd, h2, h3, hc with
        | 2, h2, _, hc =>
          simp only [Bool.and_eq_true, decide_eq_true_eq] at h2
          obtain ⟨⟨⟨⟨g1, g2⟩, g3⟩, g4⟩, rfl⟩ := h2
          exact xs_callI C hd hf hk hm' g1 g2 g3 g4 hc
        | 3, h2, _, hc =>
          simp only [Bool.and_eq_true, decide_eq_true_eq] at h2
          obtain ⟨⟨⟨⟨g1, g2⟩, g3⟩, g4⟩, rfl⟩ := h2
          exact xs_callN C hd hf hk hm' g1 g2 g3 g4 hc
        | 0, _, h3, _ => cases h3
        | 1, _, h3, _ => cases h3
        | kd + 4, h2, _, _ => cases h2
    · cases h2
theorem sim_clo {l : Launch} {sz0 : Nat} {H00 : Heap} {scr : (Int → Int) × Nat} {dC : Nat → ClassId} {dI : Nat → Nat → Nat} {cA : Nat → ClassId} {tk : Nat → Nat} {xStr : State → Prop} (hX : xStrOk xStr) (hSR : xStrRows l sz0 H00 scr dC dI cA tk xStr) : xclo (xSim l sz0 H00 scr dC dI cA tk xStr) := by
  intro Y hY d m es k ls st I L G c s0 post h hes p e R s mi args below meth cd H locs cells slots mc ms arr Q hB hC hR hsz hS hH hl hret
  have C : xCx l sz0 H00 scr dC dI cA tk xStr Y d m es ls I L G c s0 post p e R s mi args below meth cd H locs cells slots mc ms arr Q := ⟨⟨hes, hY, hX⟩, hB, hC, hR, hsz, hS, hH, hl, hret⟩
  unfold xstp at h
  cases he : es[k]? with
  | none => rw [he] at h; exact h.elim
  | some q =>
    obtain ⟨pc, len, ins, ns, vs⟩ := q
    rw [he] at h
    have hpc : pcO es k = some pc := by unfold pcO; rw [he]; rfl
    rw [hpc]
    show W p l e R s mi args below meth cd H locs cells slots Q (F0 mi pc arr (st.map (cv sz0 tk)))
    have he2 : (mE m)[k]? = some (pc, len, ins, ns, vs) := by rw [← hes]; exact he
    obtain ⟨hd, hok⟩ := chk_at hB.2.2.2.2.2.2.2.2 he2
    rw [← hes] at hok
    have hd : decode (mC m) pc = .ok (ins, len) := hd
    have h : xop Y d m es k ins ns vs ls st I L G c s0 post := h
    clear he he2 hpc
    have hSr := hSR p e R s mi args below meth cd H locs cells slots Q m arr
    have hrooms : cells ≤ R.cells ∧ slots ≤ R.slots := ⟨by omega, by omega⟩
    cases ins with
    | iconst i =>
      obtain ⟨rfl, hf⟩ := ok1 hok
      exact xs_iconst C hd hf h
    | lconst i =>
      obtain ⟨rfl, hf⟩ := ok1 hok
      exact xs_lconst C hd hf h
    | aconst_null =>
      obtain ⟨rfl, hf⟩ := ok1 hok
      exact xs_aconst_null C hd hf h
    | iload_n n =>
      obtain ⟨rfl, hf⟩ := ok1 hok
      exact xs_iload_n C hd hf h
    | lload_n n =>
      obtain ⟨rfl, hf⟩ := ok1 hok
      exact xs_lload_n C hd hf h
    | aload_n n =>
      obtain ⟨rfl, hf⟩ := ok1 hok
      exact xs_aload_n C hd hf h
    | istore_n n =>
      obtain ⟨rfl, hf⟩ := ok1 hok
      exact xs_istore_n C hd hf h
    | lstore_n n =>
      obtain ⟨rfl, hf⟩ := ok1 hok
      exact xs_lstore_n C hd hf h
    | astore_n n =>
      obtain ⟨rfl, hf⟩ := ok1 hok
      exact xs_astore_n C hd hf h
    | iadd =>
      obtain ⟨rfl, hf⟩ := ok1 hok
      exact xs_iadd C hd hf h
    | isub =>
      obtain ⟨rfl, hf⟩ := ok1 hok
      exact xs_isub C hd hf h
    | imul =>
      obtain ⟨rfl, hf⟩ := ok1 hok
      exact xs_imul C hd hf h
    | idiv =>
      obtain ⟨rfl, hf⟩ := ok1 hok
      exact xs_idiv C hd hf h
    | irem =>
      obtain ⟨rfl, hf⟩ := ok1 hok
      exact xs_irem C hd hf h
    | iand =>
      obtain ⟨rfl, hf⟩ := ok1 hok
      exact xs_iand C hd hf h
    | ior =>
      obtain ⟨rfl, hf⟩ := ok1 hok
      exact xs_ior C hd hf h
    | ixor =>
      obtain ⟨rfl, hf⟩ := ok1 hok
      exact xs_ixor C hd hf h
    | ishl =>
      obtain ⟨rfl, hf⟩ := ok1 hok
      exact xs_ishl C hd hf h
    | ishr =>
      obtain ⟨rfl, hf⟩ := ok1 hok
      exact xs_ishr C hd hf h
    | iushr =>
      obtain ⟨rfl, hf⟩ := ok1 hok
      exact xs_iushr C hd hf h
    | i2b =>
      obtain ⟨rfl, hf⟩ := ok1 hok
      exact xs_i2b C hd hf h
    | i2l =>
      obtain ⟨rfl, hf⟩ := ok1 hok
      exact xs_i2l C hd hf h
    | l2i =>
      obtain ⟨rfl, hf⟩ := ok1 hok
      exact xs_l2i C hd hf h
    | ladd =>
      obtain ⟨rfl, hf⟩ := ok1 hok
      exact xs_ladd C hd hf h
    | lsub =>
      obtain ⟨rfl, hf⟩ := ok1 hok
      exact xs_lsub C hd hf h
    | lmul =>
      obtain ⟨rfl, hf⟩ := ok1 hok
      exact xs_lmul C hd hf h
    | ldiv =>
      obtain ⟨rfl, hf⟩ := ok1 hok
      exact xs_ldiv C hd hf h
    | lrem =>
      obtain ⟨rfl, hf⟩ := ok1 hok
      exact xs_lrem C hd hf h
    | land =>
      obtain ⟨rfl, hf⟩ := ok1 hok
      exact xs_land C hd hf h
    | lor =>
      obtain ⟨rfl, hf⟩ := ok1 hok
      exact xs_lor C hd hf h
    | lshl =>
      obtain ⟨rfl, hf⟩ := ok1 hok
      exact xs_lshl C hd hf h
    | lcmp =>
      obtain ⟨rfl, hf⟩ := ok1 hok
      exact xs_lcmp C hd hf h
    | dup =>
      obtain ⟨rfl, hf⟩ := ok1 hok
      exact xs_dup C hd hf h
    | dup2 =>
      obtain ⟨rfl, hf⟩ := ok1 hok
      exact xs_dup2 C hd hf h
    | pop =>
      obtain ⟨rfl, hf⟩ := ok1 hok
      exact xs_pop C hd hf h
    | iaload =>
      obtain ⟨rfl, hf⟩ := ok1 hok
      exact xs_iaload C hd hf h
    | baload =>
      obtain ⟨rfl, hf⟩ := ok1 hok
      exact xs_baload C hd hf h
    | laload =>
      obtain ⟨rfl, hf⟩ := ok1 hok
      exact xs_laload C hd hf h
    | aaload =>
      obtain ⟨rfl, hf⟩ := ok1 hok
      exact xs_aaload C hd hf h
    | iastore =>
      obtain ⟨rfl, hf⟩ := ok1 hok
      exact xs_iastore C hd hf h
    | bastore =>
      obtain ⟨rfl, hf⟩ := ok1 hok
      exact xs_bastore C hd hf h
    | lastore =>
      obtain ⟨rfl, hf⟩ := ok1 hok
      exact xs_lastore C hd hf h
    | aastore =>
      obtain ⟨rfl, hf⟩ := ok1 hok
      exact xs_aastore C hd hf h
    | arraylength =>
      obtain ⟨rfl, hf⟩ := ok1 hok
      exact xs_arraylength C hd hf h
    | iload n =>
      obtain ⟨rfl, hf⟩ := ok1 hok
      exact xs_iload C hd hf h
    | lload n =>
      obtain ⟨rfl, hf⟩ := ok1 hok
      exact xs_lload C hd hf h
    | aload n =>
      obtain ⟨rfl, hf⟩ := ok1 hok
      exact xs_aload C hd hf h
    | istore n =>
      obtain ⟨rfl, hf⟩ := ok1 hok
      exact xs_istore C hd hf h
    | lstore n =>
      obtain ⟨rfl, hf⟩ := ok1 hok
      exact xs_lstore C hd hf h
    | astore n =>
      obtain ⟨rfl, hf⟩ := ok1 hok
      exact xs_astore C hd hf h
    | newarray ty =>
      obtain ⟨rfl, hf⟩ := ok1 hok
      exact xs_newarray C hd hf h
    | iinc n v =>
      obtain ⟨rfl, hf⟩ := ok1 hok
      exact xs_iinc C hd hf h
    | bipush v =>
      simp only [okI, Bool.and_eq_true, decide_eq_true_eq, okF] at hok
      obtain ⟨⟨hf, rfl⟩, hv⟩ := hok
      exact xs_bipush C hd hf hv h
    | sipush v =>
      simp only [okI, Bool.and_eq_true, decide_eq_true_eq, okF] at hok
      obtain ⟨⟨hf, rfl⟩, hv⟩ := hok
      exact xs_sipush C hd hf hv h
    | goto off =>
      match ns, h, hok, hd with
      | [t], h, hok, hd =>
        simp only [okI, Bool.and_eq_true, decide_eq_true_eq] at hok
        obtain ⟨hT, rfl⟩ := hok
        obtain ⟨pt, ht, hT⟩ := okT_p hT
        exact xs_goto C hd ht hT h
      | [], h, _, _ => exact h.elim
      | _ :: _ :: _, h, _, _ => exact h.elim
    | ifCond cnd off =>
      match ns, h, hok, hd with
      | [t], h, hok, hd =>
        simp only [okI, okF, Bool.and_eq_true, decide_eq_true_eq] at hok
        obtain ⟨⟨hT0, hf⟩, rfl⟩ := hok
        obtain ⟨pt, ht, hT⟩ := okT_p hT0
        clear hT0
        cases cnd with
        | eq => exact xs_if_eq C hd hf ht hT h
        | ne => exact xs_if_ne C hd hf ht hT h
        | lt => exact xs_if_lt C hd hf ht hT h
        | ge => exact xs_if_ge C hd hf ht hT h
        | gt => exact xs_if_gt C hd hf ht hT h
        | le => exact xs_if_le C hd hf ht hT h
      | [], h, hok, _ => cases hok
      | _ :: _ :: _, h, hok, _ => cases hok
    | if_icmp cnd off =>
      match ns, h, hok, hd with
      | [t], h, hok, hd =>
        simp only [okI, okF, Bool.and_eq_true, decide_eq_true_eq] at hok
        obtain ⟨⟨hT0, hf⟩, rfl⟩ := hok
        obtain ⟨pt, ht, hT⟩ := okT_p hT0
        clear hT0
        cases cnd with
        | eq => exact xs_icmp_eq C hd hf ht hT h
        | ne => exact xs_icmp_ne C hd hf ht hT h
        | lt => exact xs_icmp_lt C hd hf ht hT h
        | ge => exact xs_icmp_ge C hd hf ht hT h
        | gt => exact xs_icmp_gt C hd hf ht hT h
        | le => exact xs_icmp_le C hd hf ht hT h
      | [], h, hok, _ => cases hok
      | _ :: _ :: _, h, hok, _ => cases hok
    | ifnonnull off =>
      match ns, h, hok, hd with
      | [t], h, hok, hd =>
        simp only [okI, okF, Bool.and_eq_true, decide_eq_true_eq] at hok
        obtain ⟨⟨hT, hf⟩, rfl⟩ := hok
        obtain ⟨pt, ht, hT⟩ := okT_p hT
        exact xs_ifnonnull C hd hf ht hT h
      | [], h, hok, _ => cases hok
      | _ :: _ :: _, h, hok, _ => cases hok
    | tableswitch df lo hi offs =>
      match ns, h, hok, hd with
      | td :: ts, h, hok, hd =>
        simp only [okI, Bool.and_eq_true, decide_eq_true_eq] at hok
        obtain ⟨⟨⟨hT, hvs⟩, hhi⟩, hall⟩ := hok
        obtain ⟨ptd, htd, hTd⟩ := okT_p hT
        refine xs_tableswitch C hd htd hTd hvs hhi (fun i hi => ?_) h
        have h1 := List.all_eq_true.mp hall i (List.mem_range.mpr hi)
        cases ho : offs[i]? with
        | none => rw [ho] at h1; cases h1
        | some of =>
          cases ht : ts[i]? with
          | none => rw [ho, ht] at h1; cases h1
          | some t =>
            rw [ho, ht] at h1
            obtain ⟨pt, g1, g2⟩ := okT_p h1
            exact ⟨t, pt, of, rfl, g1, rfl, g2⟩
      | [], h, hok, _ => cases hok
    | lookupswitch df ps =>
      match ns, h, hok, hd with
      | td :: ts, h, hok, hd =>
        simp only [okI, Bool.and_eq_true, decide_eq_true_eq] at hok
        obtain ⟨⟨⟨⟨hT, hso⟩, hvs⟩, hlen⟩, hall⟩ := hok
        exact xs_lookupswitch C hd hso (okT_p hT) hvs hlen (fun q hq => okT_p (List.all_eq_true.mp hall q hq)) h
      | [], h, hok, _ => cases hok
    | ldc idx =>
      match ns, vs, h, hok, hd with
      | [0, j], [v], h, hok, hd =>
        simp only [okI, okF, Bool.and_eq_true, decide_eq_true_eq] at hok
        cases hk : kT[j]? with
        | none => rw [hk] at hok; cases hok.2
        | some q =>
          obtain ⟨o1, i1, w1, pp, t1⟩ := q
          rw [hk] at hok
          simp only [Bool.and_eq_true, decide_eq_true_eq] at hok
          obtain ⟨⟨hf, rfl⟩, ⟨⟨rfl, rfl⟩, rfl⟩, rfl⟩ := hok
          exact xs_ldc C hd hf hk h
      | [1], [], h, hok, hd =>
        simp only [okI, okF, Bool.and_eq_true, decide_eq_true_eq] at hok
        obtain ⟨⟨hf, rfl⟩, rfl, hm9⟩ := hok
        exact (hSr (st.map (cv sz0 tk)) pc hB hC hS hH.2.2.2.2.1 hl.2.1 hrooms.1 hrooms.2).1 hm9 hd (xgo0 C (st' := xt 1 :: st) h hf)
      | [], _, h, hok, _ => simp [okI] at hok
      | [0], _, h, hok, _ => simp [okI] at hok
      | [1], _ :: _, h, hok, _ => simp [okI] at hok
      | [_ + 2], _, h, hok, _ => simp [okI] at hok
      | [0, _], [], h, hok, _ => simp [okI] at hok
      | [0, _], _ :: _ :: _, h, hok, _ => simp [okI] at hok
      | [_ + 1, _], _, h, hok, _ => simp [okI] at hok
      | _ :: _ :: _ :: _, _, h, hok, _ => simp [okI] at hok
    | ldc_w idx =>
      match ns, vs, h, hok, hd with
      | [0, j], [v], h, hok, hd =>
        simp only [okI, okF, Bool.and_eq_true, decide_eq_true_eq] at hok
        cases hk : kT[j]? with
        | none => rw [hk] at hok; cases hok.2
        | some q =>
          obtain ⟨o1, i1, w1, pp, t1⟩ := q
          rw [hk] at hok
          simp only [Bool.and_eq_true, decide_eq_true_eq] at hok
          obtain ⟨⟨hf, rfl⟩, ⟨⟨rfl, rfl⟩, rfl⟩, rfl⟩ := hok
          exact xs_ldc_w C hd hf hk h
      | [], _, h, hok, _ => simp [okI] at hok
      | [_], _, h, hok, _ => simp [okI] at hok
      | [0, _], [], h, hok, _ => simp [okI] at hok
      | [0, _], _ :: _ :: _, h, hok, _ => simp [okI] at hok
      | [_ + 1, _], _, h, hok, _ => simp [okI] at hok
      | _ :: _ :: _ :: _, _, h, hok, _ => simp [okI] at hok
    | ldc2_w idx =>
      match ns, vs, h, hok, hd with
      | [j], [v], h, hok, hd =>
        simp only [okI, okF, Bool.and_eq_true, decide_eq_true_eq] at hok
        cases hk : kT[j]? with
        | none => rw [hk] at hok; cases hok.2
        | some q =>
          obtain ⟨o1, i1, w1, pp, t1⟩ := q
          rw [hk] at hok
          simp only [Bool.and_eq_true, decide_eq_true_eq] at hok
          obtain ⟨⟨hf, rfl⟩, ⟨⟨rfl, rfl⟩, rfl⟩, rfl⟩ := hok
          exact xs_ldc2_w C hd hf hk h
      | _, [], h, _, _ => exact h.elim
      | _, _ :: _ :: _, h, _, _ => exact h.elim
      | [], [v], h, hok, _ => simp [okI] at hok
      | _ :: _ :: _, [v], h, hok, _ => simp [okI] at hok
    | getfield idx =>
      match ns, vs, h, hok, hd with
      | [ci, j, kd], [v], h, hok, hd =>
        simp only [okI, okF, Bool.and_eq_true, decide_eq_true_eq] at hok
        cases hk : fT[j]? with
        | none => rw [hk] at hok; cases hok.2
        | some q =>
          obtain ⟨o1, i1, c1, f1, pp⟩ := q
          rw [hk] at hok
          simp only [Bool.and_eq_true, decide_eq_true_eq, Bool.or_eq_true, Bool.not_eq_true'] at hok
          obtain ⟨⟨hf, rfl⟩, ⟨⟨⟨rfl, rfl⟩, rfl⟩, rfl⟩, hkd⟩ := hok
          have h3 : kd ≤ 3 := by
            obtain ⟨-, g2, g3⟩ := fT_in hk
            have g2 : f1 < xNf c1 := g2
            have g3 : c1 < 13 := g3
            have := xKd_le g3 g2
            have h4 := kd_at g3 g2
            rw [← hkd] at h4 this
            unfold kdOf at h4
            split at h4 <;> omega
          exact xs_getfield C hd hf hk hkd h3 h
      | [], _, h, hok, _ => simp [okI] at hok
      | [_], _, h, hok, _ => simp [okI] at hok
      | [_, _], _, h, hok, _ => simp [okI] at hok
      | _ :: _ :: _ :: _ :: _, _, h, hok, _ => simp [okI] at hok
      | [_, _, _], [], h, hok, _ => simp [okI] at hok
      | [_, _, _], _ :: _ :: _, h, hok, _ => simp [okI] at hok
    | putfield idx =>
      match ns, vs, h, hok, hd with
      | [ci, j, kd], [v], h, hok, hd =>
        simp only [okI, okF, Bool.and_eq_true, decide_eq_true_eq] at hok
        cases hk : fT[j]? with
        | none => rw [hk] at hok; cases hok.2
        | some q =>
          obtain ⟨o1, i1, c1, f1, pp⟩ := q
          rw [hk] at hok
          simp only [Bool.and_eq_true, decide_eq_true_eq, Bool.or_eq_true, Bool.not_eq_true'] at hok
          obtain ⟨⟨hf, rfl⟩, ⟨⟨⟨⟨rfl, rfl⟩, rfl⟩, rfl⟩, hkd⟩, hfin⟩ := hok
          exact xs_putfield C hd hf hk hkd hfin h
      | [], _, h, hok, _ => simp [okI] at hok
      | [_], _, h, hok, _ => simp [okI] at hok
      | [_, _], _, h, hok, _ => simp [okI] at hok
      | _ :: _ :: _ :: _ :: _, _, h, hok, _ => simp [okI] at hok
      | [_, _, _], [], h, hok, _ => simp [okI] at hok
      | [_, _, _], _ :: _ :: _, h, hok, _ => simp [okI] at hok
    | new idx =>
      match ns, h, hok, hd with
      | [ci, j, nf], h, hok, hd =>
        simp only [okI, okF, Bool.and_eq_true, decide_eq_true_eq] at hok
        cases hk : cT[j]? with
        | none => rw [hk] at hok; cases hok.2
        | some q =>
          obtain ⟨o1, i1, c1, pp⟩ := q
          rw [hk] at hok
          simp only [Bool.and_eq_true, decide_eq_true_eq] at hok
          obtain ⟨⟨hf, rfl⟩, ⟨⟨⟨rfl, rfl⟩, rfl⟩, hci⟩, hnf⟩ := hok
          exact xs_new C hd hf hk hci hnf h
      | [], h, _, _ => exact h.elim
      | [_], h, _, _ => exact h.elim
      | [_, _], h, _, _ => exact h.elim
      | _ :: _ :: _ :: _ :: _, h, _, _ => exact h.elim
    | anewarray idx =>
      match ns, h, hok, hd with
      | [tg, j], h, hok, hd =>
        simp only [okI, okF, Bool.and_eq_true, decide_eq_true_eq] at hok
        cases hk : cT[j]? with
        | none => rw [hk] at hok; cases hok.2
        | some q =>
          obtain ⟨o1, i1, c1, pp⟩ := q
          rw [hk] at hok
          simp only [Bool.and_eq_true, Bool.or_eq_true, decide_eq_true_eq] at hok
          obtain ⟨⟨hf, rfl⟩, ⟨rfl, rfl⟩, htg⟩ := hok
          exact xs_anewarray C hd hf hk htg h
      | [], h, hok, _ => simp [okI] at hok
      | [_], h, hok, _ => simp [okI] at hok
      | _ :: _ :: _ :: _, h, hok, _ => simp [okI] at hok
    | checkcast idx =>
      simp only [okI, okF, Bool.and_eq_true, decide_eq_true_eq] at hok
      obtain ⟨⟨⟨hf, rfl⟩, hidx⟩, hm13⟩ := hok
      exact xs_checkcast C hd hf hidx hm13 h
    | ireturn =>
      match ns, h, hok, hd with
      | [0], h, hok, hd =>
        simp only [okI, Bool.and_eq_true, decide_eq_true_eq] at hok
        obtain ⟨rfl, hty⟩ := hok
        obtain ⟨a, e, hp⟩ := xop_iret0 h
        rw [e]
        exact hret (some (xi a)) I L G H locs cells slots arr pc .ireturn hd (Or.inl ⟨rfl, a, rfl, Or.inl hty⟩) hH hS (by omega) (by omega) hp
      | [1], h, hok, hd =>
        simp only [okI, Bool.and_eq_true, decide_eq_true_eq] at hok
        obtain ⟨rfl, hty⟩ := hok
        obtain ⟨a, e, ha, hp⟩ := xop_iret1 h
        rw [e]
        exact hret (some (xi a)) I L G H locs cells slots arr pc .ireturn hd (Or.inl ⟨rfl, a, rfl, Or.inr ⟨hty, ha⟩⟩) hH hS (by omega) (by omega) hp
      | [], h, hok, _ => simp [okI] at hok
      | [_ + 2], h, hok, _ => simp [okI] at hok
      | _ :: _ :: _, h, hok, _ => simp [okI] at hok
    | lreturn =>
      simp only [okI, Bool.and_eq_true, decide_eq_true_eq] at hok
      obtain ⟨rfl, hty⟩ := hok
      obtain ⟨a, e, hp⟩ := xop_lret h
      rw [e]
      exact hret (some (xl a)) I L G H locs cells slots arr pc .lreturn hd (Or.inr (Or.inl ⟨rfl, hty, a, rfl⟩)) hH hS (by omega) (by omega) hp
    | areturn =>
      simp only [okI, Bool.and_eq_true, decide_eq_true_eq] at hok
      obtain ⟨rfl, hty⟩ := hok
      obtain ⟨a, e, hp⟩ := xop_aret h
      rw [e]
      have ht : ∃ t, mR m = some t ∧ ((∃ n, t = .object n) ∨ ∃ u, t = .array u) := by
        cases hq : mR m with
        | none => rw [hq] at hty; cases hty
        | some t =>
          rw [hq] at hty
          cases t with
          | object n => exact ⟨_, rfl, Or.inl ⟨n, rfl⟩⟩
          | array u => exact ⟨_, rfl, Or.inr ⟨u, rfl⟩⟩
          | _ => cases hty
      exact hret (some (xr a)) I L G H locs cells slots arr pc .areturn hd (Or.inr (Or.inr (Or.inl ⟨rfl, ht, a, rfl⟩))) hH hS (by omega) (by omega) hp
    | return_ =>
      simp only [okI, Bool.and_eq_true, decide_eq_true_eq] at hok
      obtain ⟨rfl, hty⟩ := hok
      obtain ⟨e, hp⟩ := xop_vret h
      rw [e]
      exact hret none I L G H locs cells slots arr pc .return_ hd (Or.inr (Or.inr (Or.inr ⟨rfl, hty, rfl⟩))) hH hS (by omega) (by omega) hp
    | invokestatic idx => exact xs_IS C hd hok h
    | invokevirtual idx => exact xs_IV C hSR hd hok h
    | invokespecial idx => exact xs_IP C hd hok h
    | _ => exact (show False from h).elim
/-- what ends in the abstract machine ends so in the machine -/
theorem xR_sim {l : Launch} {sz0 : Nat} {H00 : Heap} {scr : (Int → Int) × Nat} {dC : Nat → ClassId} {dI : Nat → Nat → Nat} {cA : Nat → ClassId} {tk : Nat → Nat} {xStr : State → Prop} (hX : xStrOk xStr) (hSR : xStrRows l sz0 H00 scr dC dI cA tk xStr) : xle xR (xSim l sz0 H00 scr dC dI cA tk xStr) := fun _ _ _ _ _ _ _ _ _ _ _ _ h => h _ (sim_clo hX hSR)
