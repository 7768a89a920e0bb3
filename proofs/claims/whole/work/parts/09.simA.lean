/-! the simulation's words -/
def xBase (p : Program) (s : State) (mi : MethodId) (args : Array Value) (meth : Method) (cd : Code) (m : Nat) : Prop := p.tables.exec = Jvm.exec ∧ cd.code = mC m ∧ cd.maxLocals = mL m ∧ s.vm.findClass (cn (mO m)) = some mi.cls ∧ (∀ w ∈ lw_g, w.before args s = true) ∧ meth.sig.returnType = mR m ∧ meth.locks = false ∧ ((mY m).name = "<init>" → meth.name = "<init>") ∧ m < 265
def xStrOk (xStr : State → Prop) : Prop := (∀ s U : State, s.WarmedH U.vm → xStr s → xStr U) ∧ ∀ s U : State, s.vm = U.vm → xStr s → xStr U
def xCt (sz0 : Nat) (H00 : Heap) (scr : (Int → Int) × Nat) (dC : Nat → ClassId) (dI : Nat → Nat → Nat) (cA : Nat → ClassId) (tk : Nat → Nat) (xStr : State → Prop) (s : State) : Prop := va_K (dC, dI) xcls (xtys cA) s ∧ (∀ q ∈ mT, q.2.2.2.2 = 1 → va_Nw (mTw q) s) ∧ va_Nw (.castable "[I" "java/lang/Cloneable") s ∧ va_AO "RueCake$Rule" s ∧ va_AO "RueCake$State" s ∧ va_X (tk 2) scr.2 (fun j => Int32.ofInt (scr.1 (j : Int))) s H00 ∧ tk 2 < sz0 ∧ scr.2 ≤ 1000000 ∧ xStr s
theorem mTw_nest {q : Nat × Nat × Nat × Nat × Nat} (h : q.2.2.2.2 = 1) : mTw q = .methodLinkNest (cn q.1) q.2.1 (mTy q.2.2.1) "RueCake" := by unfold mTw; rw [if_pos h]
theorem xCt.warm {sz0 : Nat} {H00 : Heap} {scr : (Int → Int) × Nat} {dC : Nat → ClassId} {dI : Nat → Nat → Nat} {cA : Nat → ClassId} {tk : Nat → Nat} {xStr : State → Prop} {s U : State} (hX : xStrOk xStr) (hW : s.WarmedH U.vm) (h : xCt sz0 H00 scr dC dI cA tk xStr s) : xCt sz0 H00 scr dC dI cA tk xStr U := by
  obtain ⟨h1, h2, h3, h4, h5, h6, h7, h8, h9⟩ := h
  refine ⟨va_K.moved hW.alike h1, fun q hq hn => ?_, va_Nw.warmC hW h3, va_AO.moved hW.alike h4, va_AO.moved hW.alike h5, va_X.moved hW.alike h6, h7, h8, hX.1 s U hW h9⟩
  have := h2 q hq hn
  rw [mTw_nest hn] at this ⊢
  exact va_Nw.warmM hW this
theorem xCt.same {sz0 : Nat} {H00 : Heap} {scr : (Int → Int) × Nat} {dC : Nat → ClassId} {dI : Nat → Nat → Nat} {cA : Nat → ClassId} {tk : Nat → Nat} {xStr : State → Prop} {s U : State} (hX : xStrOk xStr) (hv : s.vm = U.vm) (h : xCt sz0 H00 scr dC dI cA tk xStr s) : xCt sz0 H00 scr dC dI cA tk xStr U := by
  have hA : s.vm.Alike U.vm := by rw [hv]; exact Vm.Alike.refl _
  obtain ⟨h1, h2, h3, h4, h5, h6, h7, h8, h9⟩ := h
  refine ⟨va_K.moved hA h1, fun q hq hn => ?_, va_Nw.same rfl hv h3, va_AO.moved hA h4, va_AO.moved hA h5, va_X.moved hA h6, h7, h8, hX.2 s U hv h9⟩
  have := h2 q hq hn
  rw [mTw_nest hn] at this ⊢
  exact va_Nw.same rfl hv this
def xRet (l : Launch) (sz0 : Nat) (H00 : Heap) (scr : (Int → Int) × Nat) (dC : Nat → ClassId) (dI : Nat → Nat → Nat) (cA : Nat → ClassId) (tk : Nat → Nat) (p : Program) (e : Env) (R : Room) (s : State) (mi : MethodId) (args : Array Value) (below : List Frame) (meth : Method) (cd : Code) (m mc ms : Nat) (Q : State → Prop) (post : XQ) : Prop :=
  ∀ (r : Option XV) (I : XI) (L : XL) (G : XG) (H : Heap) (locs : List Loc) (cells slots : Nat) (arr : Array Slot) (pc : Nat) (ins : Instr), decode (mC m) pc = .ok (ins, 1) →
    ((ins = .ireturn ∧ ∃ a, r = some (xi a) ∧ (mR m = some .int ∨ (mR m = some .boolean ∧ (a = 0 ∨ a = 1)))) ∨ (ins = .lreturn ∧ mR m = some .long ∧ ∃ a, r = some (xl a)) ∨ (ins = .areturn ∧ (∃ t, mR m = some t ∧ ((∃ n, t = .object n) ∨ ∃ u, t = .array u)) ∧ ∃ a, r = some (xr a)) ∨ (ins = .return_ ∧ mR m = none ∧ r = none)) →
    xHp sz0 H00 scr dC dI cA I L G H → va_S (fun q => sz0 ≤ q) s.heap H locs → cells ≤ mc → slots ≤ ms → post r I L G → W p l e R s mi args below meth cd H locs cells slots Q (F0 mi pc arr (r.toList.map (cv sz0 tk)))
def xSim (l : Launch) (sz0 : Nat) (H00 : Heap) (scr : (Int → Int) × Nat) (dC : Nat → ClassId) (dI : Nat → Nat → Nat) (cA : Nat → ClassId) (tk : Nat → Nat) (xStr : State → Prop) : XX := fun d m es k ls st I L G c s0 post =>
  es = mE m → ∀ (p : Program) (e : Env) (R : Room) (s : State) (mi : MethodId) (args : Array Value) (below : List Frame) (meth : Method) (cd : Code) (H : Heap) (locs : List Loc) (cells slots mc ms : Nat) (arr : Array Slot) (Q : State → Prop),
    xBase p s mi args meth cd m → xCt sz0 H00 scr dC dI cA tk xStr s → (d ≤ R.frames ∧ 40 * d ≤ R.locals ∧ R.cells = mc ∧ R.slots = ms ∧ cells + c ≤ mc ∧ slots + s0 ≤ ms) → sz0 ≤ s.heap.size → va_S (fun q => sz0 ≤ q) s.heap H locs → xHp sz0 H00 scr dC dI cA I L G H → xLv sz0 tk arr (mL m) ls →
    xRet l sz0 H00 scr dC dI cA tk p e R s mi args below meth cd m mc ms Q post → W p l e R s mi args below meth cd H locs cells slots Q (F0 mi ((pcO es k).getD 0) arr (st.map (cv sz0 tk)))
def xCx (l : Launch) (sz0 : Nat) (H00 : Heap) (scr : (Int → Int) × Nat) (dC : Nat → ClassId) (dI : Nat → Nat → Nat) (cA : Nat → ClassId) (tk : Nat → Nat) (xStr : State → Prop) (Y : XX) (d m : Nat) (es : List XE) (ls : List XV) (I : XI) (L : XL) (G : XG) (c s0 : Nat) (post : XQ) (p : Program) (e : Env) (R : Room) (s : State) (mi : MethodId) (args : Array Value) (below : List Frame) (meth : Method) (cd : Code) (H : Heap) (locs : List Loc) (cells slots mc ms : Nat) (arr : Array Slot) (Q : State → Prop) : Prop :=
  (es = mE m ∧ xle Y (xSim l sz0 H00 scr dC dI cA tk xStr) ∧ xStrOk xStr) ∧ xBase p s mi args meth cd m ∧ xCt sz0 H00 scr dC dI cA tk xStr s ∧ (d ≤ R.frames ∧ 40 * d ≤ R.locals ∧ R.cells = mc ∧ R.slots = ms ∧ cells + c ≤ mc ∧ slots + s0 ≤ ms) ∧ sz0 ≤ s.heap.size ∧ va_S (fun q => sz0 ≤ q) s.heap H locs ∧ xHp sz0 H00 scr dC dI cA I L G H ∧ xLv sz0 tk arr (mL m) ls ∧ xRet l sz0 H00 scr dC dI cA tk p e R s mi args below meth cd m mc ms Q post
theorem xgo {l : Launch} {sz0 : Nat} {H00 : Heap} {scr : (Int → Int) × Nat} {dC : Nat → ClassId} {dI : Nat → Nat → Nat} {cA : Nat → ClassId} {tk : Nat → Nat} {xStr : State → Prop} {Y : XX} {d m : Nat} {es : List XE} {ls : List XV} {I : XI} {L : XL} {G : XG} {c s0 : Nat} {post : XQ} {p : Program} {e : Env} {R : Room} {s : State} {mi : MethodId} {args : Array Value} {below : List Frame} {meth : Method} {cd : Code} {H : Heap} {locs : List Loc} {cells slots mc ms : Nat} {arr : Array Slot} {Q : State → Prop} (C : xCx l sz0 H00 scr dC dI cA tk xStr Y d m es ls I L G c s0 post p e R s mi args below meth cd H locs cells slots mc ms arr Q) {k' : Nat} {ls' st' : List XV} {I' : XI} {L' : XL} {G' : XG} {c' s' pc' : Nat} {H' : Heap} {locs' : List Loc} {cells' slots' : Nat} {arr' : Array Slot} (hy : Y d m es k' ls' st' I' L' G' c' s' post) (hp : pcO es k' = some pc') (hS : va_S (fun q => sz0 ≤ q) s.heap H' locs') (hH : xHp sz0 H00 scr dC dI cA I' L' G' H') (hl : xLv sz0 tk arr' (mL m) ls') (hc : cells' + c' ≤ mc) (hs : slots' + s' ≤ ms) : W p l e R s mi args below meth cd H' locs' cells' slots' Q (F0 mi pc' arr' (st'.map (cv sz0 tk))) := by
  obtain ⟨⟨hes, hle, -⟩, hB, hC, hR, hsz, -, -, -, hret⟩ := C
  have h := hle _ _ _ _ _ _ _ _ _ _ _ _ hy hes p e R s mi args below meth cd H' locs' cells' slots' mc ms arr' Q hB hC ⟨hR.1, hR.2.1, hR.2.2.1, hR.2.2.2.1, hc, hs⟩ hsz hS hH hl hret
  rw [hp] at h
  exact h
theorem xgo0 {l : Launch} {sz0 : Nat} {H00 : Heap} {scr : (Int → Int) × Nat} {dC : Nat → ClassId} {dI : Nat → Nat → Nat} {cA : Nat → ClassId} {tk : Nat → Nat} {xStr : State → Prop} {Y : XX} {d m : Nat} {es : List XE} {ls : List XV} {I : XI} {L : XL} {G : XG} {c s0 : Nat} {post : XQ} {p : Program} {e : Env} {R : Room} {s : State} {mi : MethodId} {args : Array Value} {below : List Frame} {meth : Method} {cd : Code} {H : Heap} {locs : List Loc} {cells slots mc ms : Nat} {arr : Array Slot} {Q : State → Prop} (C : xCx l sz0 H00 scr dC dI cA tk xStr Y d m es ls I L G c s0 post p e R s mi args below meth cd H locs cells slots mc ms arr Q) {k' : Nat} {st' : List XV} {pc' : Nat} (hy : Y d m es k' ls st' I L G c s0 post) (hp : pcO es k' = some pc') : W p l e R s mi args below meth cd H locs cells slots Q (F0 mi pc' arr (st'.map (cv sz0 tk))) :=
  xgo C hy hp C.2.2.2.2.2.1 C.2.2.2.2.2.2.1 C.2.2.2.2.2.2.2.1 C.2.2.2.1.2.2.2.2.1 C.2.2.2.1.2.2.2.2.2
theorem xgoL {l : Launch} {sz0 : Nat} {H00 : Heap} {scr : (Int → Int) × Nat} {dC : Nat → ClassId} {dI : Nat → Nat → Nat} {cA : Nat → ClassId} {tk : Nat → Nat} {xStr : State → Prop} {Y : XX} {d m : Nat} {es : List XE} {ls : List XV} {I : XI} {L : XL} {G : XG} {c s0 : Nat} {post : XQ} {p : Program} {e : Env} {R : Room} {s : State} {mi : MethodId} {args : Array Value} {below : List Frame} {meth : Method} {cd : Code} {H : Heap} {locs : List Loc} {cells slots mc ms : Nat} {arr : Array Slot} {Q : State → Prop} (C : xCx l sz0 H00 scr dC dI cA tk xStr Y d m es ls I L G c s0 post p e R s mi args below meth cd H locs cells slots mc ms arr Q) {k' : Nat} {ls' st' : List XV} {pc' : Nat} {arr' : Array Slot} (hy : Y d m es k' ls' st' I L G c s0 post) (hp : pcO es k' = some pc') (hl : xLv sz0 tk arr' (mL m) ls') : W p l e R s mi args below meth cd H locs cells slots Q (F0 mi pc' arr' (st'.map (cv sz0 tk))) :=
  xgo C hy hp C.2.2.2.2.2.1 C.2.2.2.2.2.2.1 hl C.2.2.2.1.2.2.2.2.1 C.2.2.2.1.2.2.2.2.2
theorem xs_iconst {l : Launch} {sz0 : Nat} {H00 : Heap} {scr : (Int → Int) × Nat} {dC : Nat → ClassId} {dI : Nat → Nat → Nat} {cA : Nat → ClassId} {tk : Nat → Nat} {xStr : State → Prop} {Y : XX} {d m : Nat} {es : List XE} {k : Nat} {ls st : List XV} {I : XI} {L : XL} {G : XG} {c s0 : Nat} {post : XQ} {p : Program} {e : Env} {R : Room} {s : State} {mi : MethodId} {args : Array Value} {below : List Frame} {meth : Method} {cd : Code} {H : Heap} {locs : List Loc} {cells slots mc ms : Nat} {arr : Array Slot} {Q : State → Prop} {pc : Nat} {ns : List Nat} {vs : List Int} {i : Int} (C : xCx l sz0 H00 scr dC dI cA tk xStr Y d m es ls I L G c s0 post p e R s mi args below meth cd H locs cells slots mc ms arr Q) (hd : decode (mC m) pc = .ok (.iconst i, 1)) (hf : pcO es (k + 1) = some (pc + 1))  (h : xop Y d m es k (.iconst i) ns vs ls st I L G c s0 post) : W p l e R s mi args below meth cd H locs cells slots Q (F0 mi pc arr (st.map (cv sz0 tk))) := by
  have hx := C.2.1.1
  have hb := C.2.1.2.1
  exact lv_iconst hx hb hd rfl (xgo0 C (st' := xi i :: st) h hf)
theorem xs_bipush {l : Launch} {sz0 : Nat} {H00 : Heap} {scr : (Int → Int) × Nat} {dC : Nat → ClassId} {dI : Nat → Nat → Nat} {cA : Nat → ClassId} {tk : Nat → Nat} {xStr : State → Prop} {Y : XX} {d m : Nat} {es : List XE} {k : Nat} {ls st : List XV} {I : XI} {L : XL} {G : XG} {c s0 : Nat} {post : XQ} {p : Program} {e : Env} {R : Room} {s : State} {mi : MethodId} {args : Array Value} {below : List Frame} {meth : Method} {cd : Code} {H : Heap} {locs : List Loc} {cells slots mc ms : Nat} {arr : Array Slot} {Q : State → Prop} {pc : Nat} {ns : List Nat} {vs : List Int} {i : Int} (C : xCx l sz0 H00 scr dC dI cA tk xStr Y d m es ls I L G c s0 post p e R s mi args below meth cd H locs cells slots mc ms arr Q) (hd : decode (mC m) pc = .ok (.bipush i, 2)) (hf : pcO es (k + 1) = some (pc + 2)) (hv : (Int8.ofInt i).toInt32 = Int32.ofInt i) (h : xop Y d m es k (.bipush i) ns vs ls st I L G c s0 post) : W p l e R s mi args below meth cd H locs cells slots Q (F0 mi pc arr (st.map (cv sz0 tk))) := by
  have hx := C.2.1.1
  have hb := C.2.1.2.1
  exact lv_bipush hx hb hd hv (xgo0 C (st' := xi i :: st) h hf)
theorem xs_sipush {l : Launch} {sz0 : Nat} {H00 : Heap} {scr : (Int → Int) × Nat} {dC : Nat → ClassId} {dI : Nat → Nat → Nat} {cA : Nat → ClassId} {tk : Nat → Nat} {xStr : State → Prop} {Y : XX} {d m : Nat} {es : List XE} {k : Nat} {ls st : List XV} {I : XI} {L : XL} {G : XG} {c s0 : Nat} {post : XQ} {p : Program} {e : Env} {R : Room} {s : State} {mi : MethodId} {args : Array Value} {below : List Frame} {meth : Method} {cd : Code} {H : Heap} {locs : List Loc} {cells slots mc ms : Nat} {arr : Array Slot} {Q : State → Prop} {pc : Nat} {ns : List Nat} {vs : List Int} {i : Int} (C : xCx l sz0 H00 scr dC dI cA tk xStr Y d m es ls I L G c s0 post p e R s mi args below meth cd H locs cells slots mc ms arr Q) (hd : decode (mC m) pc = .ok (.sipush i, 3)) (hf : pcO es (k + 1) = some (pc + 3)) (hv : (Int16.ofInt i).toInt32 = Int32.ofInt i) (h : xop Y d m es k (.sipush i) ns vs ls st I L G c s0 post) : W p l e R s mi args below meth cd H locs cells slots Q (F0 mi pc arr (st.map (cv sz0 tk))) := by
  have hx := C.2.1.1
  have hb := C.2.1.2.1
  exact lv_sipush hx hb hd hv (xgo0 C (st' := xi i :: st) h hf)
theorem xs_lconst {l : Launch} {sz0 : Nat} {H00 : Heap} {scr : (Int → Int) × Nat} {dC : Nat → ClassId} {dI : Nat → Nat → Nat} {cA : Nat → ClassId} {tk : Nat → Nat} {xStr : State → Prop} {Y : XX} {d m : Nat} {es : List XE} {k : Nat} {ls st : List XV} {I : XI} {L : XL} {G : XG} {c s0 : Nat} {post : XQ} {p : Program} {e : Env} {R : Room} {s : State} {mi : MethodId} {args : Array Value} {below : List Frame} {meth : Method} {cd : Code} {H : Heap} {locs : List Loc} {cells slots mc ms : Nat} {arr : Array Slot} {Q : State → Prop} {pc : Nat} {ns : List Nat} {vs : List Int} {i : Fin 2} (C : xCx l sz0 H00 scr dC dI cA tk xStr Y d m es ls I L G c s0 post p e R s mi args below meth cd H locs cells slots mc ms arr Q) (hd : decode (mC m) pc = .ok (.lconst i, 1)) (hf : pcO es (k + 1) = some (pc + 1))  (h : xop Y d m es k (.lconst i) ns vs ls st I L G c s0 post) : W p l e R s mi args below meth cd H locs cells slots Q (F0 mi pc arr (st.map (cv sz0 tk))) := by
  have hx := C.2.1.1
  have hb := C.2.1.2.1
  exact lv_lconst hx hb hd rfl (xgo0 C (st' := xl (Int64.ofNat i.val) :: st) h hf)
theorem xs_aconst_null {l : Launch} {sz0 : Nat} {H00 : Heap} {scr : (Int → Int) × Nat} {dC : Nat → ClassId} {dI : Nat → Nat → Nat} {cA : Nat → ClassId} {tk : Nat → Nat} {xStr : State → Prop} {Y : XX} {d m : Nat} {es : List XE} {k : Nat} {ls st : List XV} {I : XI} {L : XL} {G : XG} {c s0 : Nat} {post : XQ} {p : Program} {e : Env} {R : Room} {s : State} {mi : MethodId} {args : Array Value} {below : List Frame} {meth : Method} {cd : Code} {H : Heap} {locs : List Loc} {cells slots mc ms : Nat} {arr : Array Slot} {Q : State → Prop} {pc : Nat} {ns : List Nat} {vs : List Int}  (C : xCx l sz0 H00 scr dC dI cA tk xStr Y d m es ls I L G c s0 post p e R s mi args below meth cd H locs cells slots mc ms arr Q) (hd : decode (mC m) pc = .ok (.aconst_null, 1)) (hf : pcO es (k + 1) = some (pc + 1))  (h : xop Y d m es k (.aconst_null) ns vs ls st I L G c s0 post) : W p l e R s mi args below meth cd H locs cells slots Q (F0 mi pc arr (st.map (cv sz0 tk))) := by
  have hx := C.2.1.1
  have hb := C.2.1.2.1
  exact lv_null hx hb hd (xgo0 C (st' := xr none :: st) h hf)
theorem xs_iadd {l : Launch} {sz0 : Nat} {H00 : Heap} {scr : (Int → Int) × Nat} {dC : Nat → ClassId} {dI : Nat → Nat → Nat} {cA : Nat → ClassId} {tk : Nat → Nat} {xStr : State → Prop} {Y : XX} {d m : Nat} {es : List XE} {k : Nat} {ls st : List XV} {I : XI} {L : XL} {G : XG} {c s0 : Nat} {post : XQ} {p : Program} {e : Env} {R : Room} {s : State} {mi : MethodId} {args : Array Value} {below : List Frame} {meth : Method} {cd : Code} {H : Heap} {locs : List Loc} {cells slots mc ms : Nat} {arr : Array Slot} {Q : State → Prop} {pc : Nat} {ns : List Nat} {vs : List Int}  (C : xCx l sz0 H00 scr dC dI cA tk xStr Y d m es ls I L G c s0 post p e R s mi args below meth cd H locs cells slots mc ms arr Q) (hd : decode (mC m) pc = .ok (.iadd, 1)) (hf : pcO es (k + 1) = some (pc + 1))  (h : xop Y d m es k (.iadd) ns vs ls st I L G c s0 post) : W p l e R s mi args below meth cd H locs cells slots Q (F0 mi pc arr (st.map (cv sz0 tk))) := by
  have hx := C.2.1.1
  have hb := C.2.1.2.1
  simp only [xop] at h
  split at h
  · rename_i b a r
    exact lv_iadd hx hb hd (by rw [← Int32.ofInt_add]; exact xgo0 C (st' := xi (a + b) :: r) h hf)
  · exact h.elim
theorem xs_isub {l : Launch} {sz0 : Nat} {H00 : Heap} {scr : (Int → Int) × Nat} {dC : Nat → ClassId} {dI : Nat → Nat → Nat} {cA : Nat → ClassId} {tk : Nat → Nat} {xStr : State → Prop} {Y : XX} {d m : Nat} {es : List XE} {k : Nat} {ls st : List XV} {I : XI} {L : XL} {G : XG} {c s0 : Nat} {post : XQ} {p : Program} {e : Env} {R : Room} {s : State} {mi : MethodId} {args : Array Value} {below : List Frame} {meth : Method} {cd : Code} {H : Heap} {locs : List Loc} {cells slots mc ms : Nat} {arr : Array Slot} {Q : State → Prop} {pc : Nat} {ns : List Nat} {vs : List Int}  (C : xCx l sz0 H00 scr dC dI cA tk xStr Y d m es ls I L G c s0 post p e R s mi args below meth cd H locs cells slots mc ms arr Q) (hd : decode (mC m) pc = .ok (.isub, 1)) (hf : pcO es (k + 1) = some (pc + 1))  (h : xop Y d m es k (.isub) ns vs ls st I L G c s0 post) : W p l e R s mi args below meth cd H locs cells slots Q (F0 mi pc arr (st.map (cv sz0 tk))) := by
  have hx := C.2.1.1
  have hb := C.2.1.2.1
  simp only [xop] at h
  split at h
  · rename_i b a r
    exact lv_isub hx hb hd (by rw [← Int32.ofInt_sub]; exact xgo0 C (st' := xi (a - b) :: r) h hf)
  · exact h.elim
theorem xs_imul {l : Launch} {sz0 : Nat} {H00 : Heap} {scr : (Int → Int) × Nat} {dC : Nat → ClassId} {dI : Nat → Nat → Nat} {cA : Nat → ClassId} {tk : Nat → Nat} {xStr : State → Prop} {Y : XX} {d m : Nat} {es : List XE} {k : Nat} {ls st : List XV} {I : XI} {L : XL} {G : XG} {c s0 : Nat} {post : XQ} {p : Program} {e : Env} {R : Room} {s : State} {mi : MethodId} {args : Array Value} {below : List Frame} {meth : Method} {cd : Code} {H : Heap} {locs : List Loc} {cells slots mc ms : Nat} {arr : Array Slot} {Q : State → Prop} {pc : Nat} {ns : List Nat} {vs : List Int}  (C : xCx l sz0 H00 scr dC dI cA tk xStr Y d m es ls I L G c s0 post p e R s mi args below meth cd H locs cells slots mc ms arr Q) (hd : decode (mC m) pc = .ok (.imul, 1)) (hf : pcO es (k + 1) = some (pc + 1))  (h : xop Y d m es k (.imul) ns vs ls st I L G c s0 post) : W p l e R s mi args below meth cd H locs cells slots Q (F0 mi pc arr (st.map (cv sz0 tk))) := by
  have hx := C.2.1.1
  have hb := C.2.1.2.1
  simp only [xop] at h
  split at h
  · rename_i b a r
    exact lv_imul hx hb hd (by rw [← Int32.ofInt_mul]; exact xgo0 C (st' := xi (a * b) :: r) h hf)
  · exact h.elim
theorem xs_iand {l : Launch} {sz0 : Nat} {H00 : Heap} {scr : (Int → Int) × Nat} {dC : Nat → ClassId} {dI : Nat → Nat → Nat} {cA : Nat → ClassId} {tk : Nat → Nat} {xStr : State → Prop} {Y : XX} {d m : Nat} {es : List XE} {k : Nat} {ls st : List XV} {I : XI} {L : XL} {G : XG} {c s0 : Nat} {post : XQ} {p : Program} {e : Env} {R : Room} {s : State} {mi : MethodId} {args : Array Value} {below : List Frame} {meth : Method} {cd : Code} {H : Heap} {locs : List Loc} {cells slots mc ms : Nat} {arr : Array Slot} {Q : State → Prop} {pc : Nat} {ns : List Nat} {vs : List Int}  (C : xCx l sz0 H00 scr dC dI cA tk xStr Y d m es ls I L G c s0 post p e R s mi args below meth cd H locs cells slots mc ms arr Q) (hd : decode (mC m) pc = .ok (.iand, 1)) (hf : pcO es (k + 1) = some (pc + 1))  (h : xop Y d m es k (.iand) ns vs ls st I L G c s0 post) : W p l e R s mi args below meth cd H locs cells slots Q (F0 mi pc arr (st.map (cv sz0 tk))) := by
  have hx := C.2.1.1
  have hb := C.2.1.2.1
  simp only [xop] at h
  split at h
  · rename_i b a r
    exact lv_iand hx hb hd (by rw [← xo_and]; exact xgo0 C (st' := xi (xand a b) :: r) h hf)
  · exact h.elim
theorem xs_ior {l : Launch} {sz0 : Nat} {H00 : Heap} {scr : (Int → Int) × Nat} {dC : Nat → ClassId} {dI : Nat → Nat → Nat} {cA : Nat → ClassId} {tk : Nat → Nat} {xStr : State → Prop} {Y : XX} {d m : Nat} {es : List XE} {k : Nat} {ls st : List XV} {I : XI} {L : XL} {G : XG} {c s0 : Nat} {post : XQ} {p : Program} {e : Env} {R : Room} {s : State} {mi : MethodId} {args : Array Value} {below : List Frame} {meth : Method} {cd : Code} {H : Heap} {locs : List Loc} {cells slots mc ms : Nat} {arr : Array Slot} {Q : State → Prop} {pc : Nat} {ns : List Nat} {vs : List Int}  (C : xCx l sz0 H00 scr dC dI cA tk xStr Y d m es ls I L G c s0 post p e R s mi args below meth cd H locs cells slots mc ms arr Q) (hd : decode (mC m) pc = .ok (.ior, 1)) (hf : pcO es (k + 1) = some (pc + 1))  (h : xop Y d m es k (.ior) ns vs ls st I L G c s0 post) : W p l e R s mi args below meth cd H locs cells slots Q (F0 mi pc arr (st.map (cv sz0 tk))) := by
  have hx := C.2.1.1
  have hb := C.2.1.2.1
  simp only [xop] at h
  split at h
  · rename_i b a r
    exact lv_ior hx hb hd (by rw [← xo_ior]; exact xgo0 C (st' := xi (xior a b) :: r) h hf)
  · exact h.elim
theorem xs_ixor {l : Launch} {sz0 : Nat} {H00 : Heap} {scr : (Int → Int) × Nat} {dC : Nat → ClassId} {dI : Nat → Nat → Nat} {cA : Nat → ClassId} {tk : Nat → Nat} {xStr : State → Prop} {Y : XX} {d m : Nat} {es : List XE} {k : Nat} {ls st : List XV} {I : XI} {L : XL} {G : XG} {c s0 : Nat} {post : XQ} {p : Program} {e : Env} {R : Room} {s : State} {mi : MethodId} {args : Array Value} {below : List Frame} {meth : Method} {cd : Code} {H : Heap} {locs : List Loc} {cells slots mc ms : Nat} {arr : Array Slot} {Q : State → Prop} {pc : Nat} {ns : List Nat} {vs : List Int}  (C : xCx l sz0 H00 scr dC dI cA tk xStr Y d m es ls I L G c s0 post p e R s mi args below meth cd H locs cells slots mc ms arr Q) (hd : decode (mC m) pc = .ok (.ixor, 1)) (hf : pcO es (k + 1) = some (pc + 1))  (h : xop Y d m es k (.ixor) ns vs ls st I L G c s0 post) : W p l e R s mi args below meth cd H locs cells slots Q (F0 mi pc arr (st.map (cv sz0 tk))) := by
  have hx := C.2.1.1
  have hb := C.2.1.2.1
  simp only [xop] at h
  split at h
  · rename_i b a r
    exact lv_ixor hx hb hd (by rw [← xo_xor]; exact xgo0 C (st' := xi (xxor a b) :: r) h hf)
  · exact h.elim
theorem xs_ishl {l : Launch} {sz0 : Nat} {H00 : Heap} {scr : (Int → Int) × Nat} {dC : Nat → ClassId} {dI : Nat → Nat → Nat} {cA : Nat → ClassId} {tk : Nat → Nat} {xStr : State → Prop} {Y : XX} {d m : Nat} {es : List XE} {k : Nat} {ls st : List XV} {I : XI} {L : XL} {G : XG} {c s0 : Nat} {post : XQ} {p : Program} {e : Env} {R : Room} {s : State} {mi : MethodId} {args : Array Value} {below : List Frame} {meth : Method} {cd : Code} {H : Heap} {locs : List Loc} {cells slots mc ms : Nat} {arr : Array Slot} {Q : State → Prop} {pc : Nat} {ns : List Nat} {vs : List Int}  (C : xCx l sz0 H00 scr dC dI cA tk xStr Y d m es ls I L G c s0 post p e R s mi args below meth cd H locs cells slots mc ms arr Q) (hd : decode (mC m) pc = .ok (.ishl, 1)) (hf : pcO es (k + 1) = some (pc + 1))  (h : xop Y d m es k (.ishl) ns vs ls st I L G c s0 post) : W p l e R s mi args below meth cd H locs cells slots Q (F0 mi pc arr (st.map (cv sz0 tk))) := by
  have hx := C.2.1.1
  have hb := C.2.1.2.1
  simp only [xop] at h
  split at h
  · rename_i b a r
    exact lv_ishl hx hb hd (by rw [← xo_shl]; exact xgo0 C (st' := xi (xshl a b) :: r) h hf)
  · exact h.elim
theorem xs_ishr {l : Launch} {sz0 : Nat} {H00 : Heap} {scr : (Int → Int) × Nat} {dC : Nat → ClassId} {dI : Nat → Nat → Nat} {cA : Nat → ClassId} {tk : Nat → Nat} {xStr : State → Prop} {Y : XX} {d m : Nat} {es : List XE} {k : Nat} {ls st : List XV} {I : XI} {L : XL} {G : XG} {c s0 : Nat} {post : XQ} {p : Program} {e : Env} {R : Room} {s : State} {mi : MethodId} {args : Array Value} {below : List Frame} {meth : Method} {cd : Code} {H : Heap} {locs : List Loc} {cells slots mc ms : Nat} {arr : Array Slot} {Q : State → Prop} {pc : Nat} {ns : List Nat} {vs : List Int}  (C : xCx l sz0 H00 scr dC dI cA tk xStr Y d m es ls I L G c s0 post p e R s mi args below meth cd H locs cells slots mc ms arr Q) (hd : decode (mC m) pc = .ok (.ishr, 1)) (hf : pcO es (k + 1) = some (pc + 1))  (h : xop Y d m es k (.ishr) ns vs ls st I L G c s0 post) : W p l e R s mi args below meth cd H locs cells slots Q (F0 mi pc arr (st.map (cv sz0 tk))) := by
  have hx := C.2.1.1
  have hb := C.2.1.2.1
  simp only [xop] at h
  split at h
  · rename_i b a r
    exact lv_ishr hx hb hd (by rw [← xo_shr]; exact xgo0 C (st' := xi (xshr a b) :: r) h hf)
  · exact h.elim
theorem xs_iushr {l : Launch} {sz0 : Nat} {H00 : Heap} {scr : (Int → Int) × Nat} {dC : Nat → ClassId} {dI : Nat → Nat → Nat} {cA : Nat → ClassId} {tk : Nat → Nat} {xStr : State → Prop} {Y : XX} {d m : Nat} {es : List XE} {k : Nat} {ls st : List XV} {I : XI} {L : XL} {G : XG} {c s0 : Nat} {post : XQ} {p : Program} {e : Env} {R : Room} {s : State} {mi : MethodId} {args : Array Value} {below : List Frame} {meth : Method} {cd : Code} {H : Heap} {locs : List Loc} {cells slots mc ms : Nat} {arr : Array Slot} {Q : State → Prop} {pc : Nat} {ns : List Nat} {vs : List Int}  (C : xCx l sz0 H00 scr dC dI cA tk xStr Y d m es ls I L G c s0 post p e R s mi args below meth cd H locs cells slots mc ms arr Q) (hd : decode (mC m) pc = .ok (.iushr, 1)) (hf : pcO es (k + 1) = some (pc + 1))  (h : xop Y d m es k (.iushr) ns vs ls st I L G c s0 post) : W p l e R s mi args below meth cd H locs cells slots Q (F0 mi pc arr (st.map (cv sz0 tk))) := by
  have hx := C.2.1.1
  have hb := C.2.1.2.1
  simp only [xop] at h
  split at h
  · rename_i b a r
    exact lv_iushr (v := Int32.ofInt (xush a b)) hx hb hd (xo_ush a b).symm (xgo0 C (st' := xi (xush a b) :: r) h hf)
  · exact h.elim
theorem xs_idiv {l : Launch} {sz0 : Nat} {H00 : Heap} {scr : (Int → Int) × Nat} {dC : Nat → ClassId} {dI : Nat → Nat → Nat} {cA : Nat → ClassId} {tk : Nat → Nat} {xStr : State → Prop} {Y : XX} {d m : Nat} {es : List XE} {k : Nat} {ls st : List XV} {I : XI} {L : XL} {G : XG} {c s0 : Nat} {post : XQ} {p : Program} {e : Env} {R : Room} {s : State} {mi : MethodId} {args : Array Value} {below : List Frame} {meth : Method} {cd : Code} {H : Heap} {locs : List Loc} {cells slots mc ms : Nat} {arr : Array Slot} {Q : State → Prop} {pc : Nat} {ns : List Nat} {vs : List Int}  (C : xCx l sz0 H00 scr dC dI cA tk xStr Y d m es ls I L G c s0 post p e R s mi args below meth cd H locs cells slots mc ms arr Q) (hd : decode (mC m) pc = .ok (.idiv, 1)) (hf : pcO es (k + 1) = some (pc + 1))  (h : xop Y d m es k (.idiv) ns vs ls st I L G c s0 post) : W p l e R s mi args below meth cd H locs cells slots Q (F0 mi pc arr (st.map (cv sz0 tk))) := by
  have hx := C.2.1.1
  have hb := C.2.1.2.1
  simp only [xop] at h
  split at h
  · rename_i b a r
    obtain ⟨⟨ha, hb2, h0⟩, h⟩ := h
    exact lv_idiv hx hb hd (xo_ne0 hb2 h0) (by rw [← xo_div ha hb2]; exact xgo0 C (st' := xi (Int.tdiv a b) :: r) h hf)
  · exact h.elim
theorem xs_irem {l : Launch} {sz0 : Nat} {H00 : Heap} {scr : (Int → Int) × Nat} {dC : Nat → ClassId} {dI : Nat → Nat → Nat} {cA : Nat → ClassId} {tk : Nat → Nat} {xStr : State → Prop} {Y : XX} {d m : Nat} {es : List XE} {k : Nat} {ls st : List XV} {I : XI} {L : XL} {G : XG} {c s0 : Nat} {post : XQ} {p : Program} {e : Env} {R : Room} {s : State} {mi : MethodId} {args : Array Value} {below : List Frame} {meth : Method} {cd : Code} {H : Heap} {locs : List Loc} {cells slots mc ms : Nat} {arr : Array Slot} {Q : State → Prop} {pc : Nat} {ns : List Nat} {vs : List Int}  (C : xCx l sz0 H00 scr dC dI cA tk xStr Y d m es ls I L G c s0 post p e R s mi args below meth cd H locs cells slots mc ms arr Q) (hd : decode (mC m) pc = .ok (.irem, 1)) (hf : pcO es (k + 1) = some (pc + 1))  (h : xop Y d m es k (.irem) ns vs ls st I L G c s0 post) : W p l e R s mi args below meth cd H locs cells slots Q (F0 mi pc arr (st.map (cv sz0 tk))) := by
  have hx := C.2.1.1
  have hb := C.2.1.2.1
  simp only [xop] at h
  split at h
  · rename_i b a r
    obtain ⟨⟨ha, hb2, h0⟩, h⟩ := h
    exact lv_irem hx hb hd (xo_ne0 hb2 h0) (by rw [← xo_rem ha hb2]; exact xgo0 C (st' := xi (Int.tmod a b) :: r) h hf)
  · exact h.elim
theorem xs_i2b {l : Launch} {sz0 : Nat} {H00 : Heap} {scr : (Int → Int) × Nat} {dC : Nat → ClassId} {dI : Nat → Nat → Nat} {cA : Nat → ClassId} {tk : Nat → Nat} {xStr : State → Prop} {Y : XX} {d m : Nat} {es : List XE} {k : Nat} {ls st : List XV} {I : XI} {L : XL} {G : XG} {c s0 : Nat} {post : XQ} {p : Program} {e : Env} {R : Room} {s : State} {mi : MethodId} {args : Array Value} {below : List Frame} {meth : Method} {cd : Code} {H : Heap} {locs : List Loc} {cells slots mc ms : Nat} {arr : Array Slot} {Q : State → Prop} {pc : Nat} {ns : List Nat} {vs : List Int}  (C : xCx l sz0 H00 scr dC dI cA tk xStr Y d m es ls I L G c s0 post p e R s mi args below meth cd H locs cells slots mc ms arr Q) (hd : decode (mC m) pc = .ok (.i2b, 1)) (hf : pcO es (k + 1) = some (pc + 1))  (h : xop Y d m es k (.i2b) ns vs ls st I L G c s0 post) : W p l e R s mi args below meth cd H locs cells slots Q (F0 mi pc arr (st.map (cv sz0 tk))) := by
  have hx := C.2.1.1
  have hb := C.2.1.2.1
  simp only [xop] at h
  split at h
  · rename_i a r
    exact lv_i2b (v := Int32.ofInt (xi2b a)) hx hb hd (xo_i2b a).symm (xgo0 C (st' := xi (xi2b a) :: r) h hf)
  · exact h.elim
theorem xs_i2l {l : Launch} {sz0 : Nat} {H00 : Heap} {scr : (Int → Int) × Nat} {dC : Nat → ClassId} {dI : Nat → Nat → Nat} {cA : Nat → ClassId} {tk : Nat → Nat} {xStr : State → Prop} {Y : XX} {d m : Nat} {es : List XE} {k : Nat} {ls st : List XV} {I : XI} {L : XL} {G : XG} {c s0 : Nat} {post : XQ} {p : Program} {e : Env} {R : Room} {s : State} {mi : MethodId} {args : Array Value} {below : List Frame} {meth : Method} {cd : Code} {H : Heap} {locs : List Loc} {cells slots mc ms : Nat} {arr : Array Slot} {Q : State → Prop} {pc : Nat} {ns : List Nat} {vs : List Int}  (C : xCx l sz0 H00 scr dC dI cA tk xStr Y d m es ls I L G c s0 post p e R s mi args below meth cd H locs cells slots mc ms arr Q) (hd : decode (mC m) pc = .ok (.i2l, 1)) (hf : pcO es (k + 1) = some (pc + 1))  (h : xop Y d m es k (.i2l) ns vs ls st I L G c s0 post) : W p l e R s mi args below meth cd H locs cells slots Q (F0 mi pc arr (st.map (cv sz0 tk))) := by
  have hx := C.2.1.1
  have hb := C.2.1.2.1
  simp only [xop] at h
  split at h
  · rename_i a r
    exact lv_i2l (v := Int64.ofInt a) hx hb hd (xo_i2l h.1) (xgo0 C (st' := xl (Int64.ofInt a) :: r) h.2 hf)
  · exact h.elim
theorem xs_l2i {l : Launch} {sz0 : Nat} {H00 : Heap} {scr : (Int → Int) × Nat} {dC : Nat → ClassId} {dI : Nat → Nat → Nat} {cA : Nat → ClassId} {tk : Nat → Nat} {xStr : State → Prop} {Y : XX} {d m : Nat} {es : List XE} {k : Nat} {ls st : List XV} {I : XI} {L : XL} {G : XG} {c s0 : Nat} {post : XQ} {p : Program} {e : Env} {R : Room} {s : State} {mi : MethodId} {args : Array Value} {below : List Frame} {meth : Method} {cd : Code} {H : Heap} {locs : List Loc} {cells slots mc ms : Nat} {arr : Array Slot} {Q : State → Prop} {pc : Nat} {ns : List Nat} {vs : List Int}  (C : xCx l sz0 H00 scr dC dI cA tk xStr Y d m es ls I L G c s0 post p e R s mi args below meth cd H locs cells slots mc ms arr Q) (hd : decode (mC m) pc = .ok (.l2i, 1)) (hf : pcO es (k + 1) = some (pc + 1))  (h : xop Y d m es k (.l2i) ns vs ls st I L G c s0 post) : W p l e R s mi args below meth cd H locs cells slots Q (F0 mi pc arr (st.map (cv sz0 tk))) := by
  have hx := C.2.1.1
  have hb := C.2.1.2.1
  simp only [xop] at h
  split at h
  · rename_i a r
    exact lv_l2i (v := Int32.ofInt (xl2i a)) hx hb hd (xo_l2i a).symm (xgo0 C (st' := xi (xl2i a) :: r) h hf)
  · exact h.elim
theorem xs_ladd {l : Launch} {sz0 : Nat} {H00 : Heap} {scr : (Int → Int) × Nat} {dC : Nat → ClassId} {dI : Nat → Nat → Nat} {cA : Nat → ClassId} {tk : Nat → Nat} {xStr : State → Prop} {Y : XX} {d m : Nat} {es : List XE} {k : Nat} {ls st : List XV} {I : XI} {L : XL} {G : XG} {c s0 : Nat} {post : XQ} {p : Program} {e : Env} {R : Room} {s : State} {mi : MethodId} {args : Array Value} {below : List Frame} {meth : Method} {cd : Code} {H : Heap} {locs : List Loc} {cells slots mc ms : Nat} {arr : Array Slot} {Q : State → Prop} {pc : Nat} {ns : List Nat} {vs : List Int}  (C : xCx l sz0 H00 scr dC dI cA tk xStr Y d m es ls I L G c s0 post p e R s mi args below meth cd H locs cells slots mc ms arr Q) (hd : decode (mC m) pc = .ok (.ladd, 1)) (hf : pcO es (k + 1) = some (pc + 1))  (h : xop Y d m es k (.ladd) ns vs ls st I L G c s0 post) : W p l e R s mi args below meth cd H locs cells slots Q (F0 mi pc arr (st.map (cv sz0 tk))) := by
  have hx := C.2.1.1
  have hb := C.2.1.2.1
  simp only [xop] at h
  split at h
  · rename_i b a r
    exact lv_ladd hx hb hd (xgo0 C (st' := xl (a + b) :: r) h hf)
  · exact h.elim
theorem xs_lsub {l : Launch} {sz0 : Nat} {H00 : Heap} {scr : (Int → Int) × Nat} {dC : Nat → ClassId} {dI : Nat → Nat → Nat} {cA : Nat → ClassId} {tk : Nat → Nat} {xStr : State → Prop} {Y : XX} {d m : Nat} {es : List XE} {k : Nat} {ls st : List XV} {I : XI} {L : XL} {G : XG} {c s0 : Nat} {post : XQ} {p : Program} {e : Env} {R : Room} {s : State} {mi : MethodId} {args : Array Value} {below : List Frame} {meth : Method} {cd : Code} {H : Heap} {locs : List Loc} {cells slots mc ms : Nat} {arr : Array Slot} {Q : State → Prop} {pc : Nat} {ns : List Nat} {vs : List Int}  (C : xCx l sz0 H00 scr dC dI cA tk xStr Y d m es ls I L G c s0 post p e R s mi args below meth cd H locs cells slots mc ms arr Q) (hd : decode (mC m) pc = .ok (.lsub, 1)) (hf : pcO es (k + 1) = some (pc + 1))  (h : xop Y d m es k (.lsub) ns vs ls st I L G c s0 post) : W p l e R s mi args below meth cd H locs cells slots Q (F0 mi pc arr (st.map (cv sz0 tk))) := by
  have hx := C.2.1.1
  have hb := C.2.1.2.1
  simp only [xop] at h
  split at h
  · rename_i b a r
    exact lv_lsub hx hb hd (xgo0 C (st' := xl (a - b) :: r) h hf)
  · exact h.elim
theorem xs_lmul {l : Launch} {sz0 : Nat} {H00 : Heap} {scr : (Int → Int) × Nat} {dC : Nat → ClassId} {dI : Nat → Nat → Nat} {cA : Nat → ClassId} {tk : Nat → Nat} {xStr : State → Prop} {Y : XX} {d m : Nat} {es : List XE} {k : Nat} {ls st : List XV} {I : XI} {L : XL} {G : XG} {c s0 : Nat} {post : XQ} {p : Program} {e : Env} {R : Room} {s : State} {mi : MethodId} {args : Array Value} {below : List Frame} {meth : Method} {cd : Code} {H : Heap} {locs : List Loc} {cells slots mc ms : Nat} {arr : Array Slot} {Q : State → Prop} {pc : Nat} {ns : List Nat} {vs : List Int}  (C : xCx l sz0 H00 scr dC dI cA tk xStr Y d m es ls I L G c s0 post p e R s mi args below meth cd H locs cells slots mc ms arr Q) (hd : decode (mC m) pc = .ok (.lmul, 1)) (hf : pcO es (k + 1) = some (pc + 1))  (h : xop Y d m es k (.lmul) ns vs ls st I L G c s0 post) : W p l e R s mi args below meth cd H locs cells slots Q (F0 mi pc arr (st.map (cv sz0 tk))) := by
  have hx := C.2.1.1
  have hb := C.2.1.2.1
  simp only [xop] at h
  split at h
  · rename_i b a r
    exact lv_lmul hx hb hd (xgo0 C (st' := xl (a * b) :: r) h hf)
  · exact h.elim
theorem xs_land {l : Launch} {sz0 : Nat} {H00 : Heap} {scr : (Int → Int) × Nat} {dC : Nat → ClassId} {dI : Nat → Nat → Nat} {cA : Nat → ClassId} {tk : Nat → Nat} {xStr : State → Prop} {Y : XX} {d m : Nat} {es : List XE} {k : Nat} {ls st : List XV} {I : XI} {L : XL} {G : XG} {c s0 : Nat} {post : XQ} {p : Program} {e : Env} {R : Room} {s : State} {mi : MethodId} {args : Array Value} {below : List Frame} {meth : Method} {cd : Code} {H : Heap} {locs : List Loc} {cells slots mc ms : Nat} {arr : Array Slot} {Q : State → Prop} {pc : Nat} {ns : List Nat} {vs : List Int}  (C : xCx l sz0 H00 scr dC dI cA tk xStr Y d m es ls I L G c s0 post p e R s mi args below meth cd H locs cells slots mc ms arr Q) (hd : decode (mC m) pc = .ok (.land, 1)) (hf : pcO es (k + 1) = some (pc + 1))  (h : xop Y d m es k (.land) ns vs ls st I L G c s0 post) : W p l e R s mi args below meth cd H locs cells slots Q (F0 mi pc arr (st.map (cv sz0 tk))) := by
  have hx := C.2.1.1
  have hb := C.2.1.2.1
  simp only [xop] at h
  split at h
  · rename_i b a r
    exact lv_land hx hb hd (xgo0 C (st' := xl (a &&& b) :: r) h hf)
  · exact h.elim
theorem xs_lor {l : Launch} {sz0 : Nat} {H00 : Heap} {scr : (Int → Int) × Nat} {dC : Nat → ClassId} {dI : Nat → Nat → Nat} {cA : Nat → ClassId} {tk : Nat → Nat} {xStr : State → Prop} {Y : XX} {d m : Nat} {es : List XE} {k : Nat} {ls st : List XV} {I : XI} {L : XL} {G : XG} {c s0 : Nat} {post : XQ} {p : Program} {e : Env} {R : Room} {s : State} {mi : MethodId} {args : Array Value} {below : List Frame} {meth : Method} {cd : Code} {H : Heap} {locs : List Loc} {cells slots mc ms : Nat} {arr : Array Slot} {Q : State → Prop} {pc : Nat} {ns : List Nat} {vs : List Int}  (C : xCx l sz0 H00 scr dC dI cA tk xStr Y d m es ls I L G c s0 post p e R s mi args below meth cd H locs cells slots mc ms arr Q) (hd : decode (mC m) pc = .ok (.lor, 1)) (hf : pcO es (k + 1) = some (pc + 1))  (h : xop Y d m es k (.lor) ns vs ls st I L G c s0 post) : W p l e R s mi args below meth cd H locs cells slots Q (F0 mi pc arr (st.map (cv sz0 tk))) := by
  have hx := C.2.1.1
  have hb := C.2.1.2.1
  simp only [xop] at h
  split at h
  · rename_i b a r
    exact lv_lor hx hb hd (xgo0 C (st' := xl (a ||| b) :: r) h hf)
  · exact h.elim
theorem xs_ldiv {l : Launch} {sz0 : Nat} {H00 : Heap} {scr : (Int → Int) × Nat} {dC : Nat → ClassId} {dI : Nat → Nat → Nat} {cA : Nat → ClassId} {tk : Nat → Nat} {xStr : State → Prop} {Y : XX} {d m : Nat} {es : List XE} {k : Nat} {ls st : List XV} {I : XI} {L : XL} {G : XG} {c s0 : Nat} {post : XQ} {p : Program} {e : Env} {R : Room} {s : State} {mi : MethodId} {args : Array Value} {below : List Frame} {meth : Method} {cd : Code} {H : Heap} {locs : List Loc} {cells slots mc ms : Nat} {arr : Array Slot} {Q : State → Prop} {pc : Nat} {ns : List Nat} {vs : List Int}  (C : xCx l sz0 H00 scr dC dI cA tk xStr Y d m es ls I L G c s0 post p e R s mi args below meth cd H locs cells slots mc ms arr Q) (hd : decode (mC m) pc = .ok (.ldiv, 1)) (hf : pcO es (k + 1) = some (pc + 1))  (h : xop Y d m es k (.ldiv) ns vs ls st I L G c s0 post) : W p l e R s mi args below meth cd H locs cells slots Q (F0 mi pc arr (st.map (cv sz0 tk))) := by
  have hx := C.2.1.1
  have hb := C.2.1.2.1
  simp only [xop] at h
  split at h
  · rename_i b a r
    exact lv_ldiv hx hb hd h.1 (xgo0 C (st' := xl (a / b) :: r) h.2 hf)
  · exact h.elim
theorem xs_lrem {l : Launch} {sz0 : Nat} {H00 : Heap} {scr : (Int → Int) × Nat} {dC : Nat → ClassId} {dI : Nat → Nat → Nat} {cA : Nat → ClassId} {tk : Nat → Nat} {xStr : State → Prop} {Y : XX} {d m : Nat} {es : List XE} {k : Nat} {ls st : List XV} {I : XI} {L : XL} {G : XG} {c s0 : Nat} {post : XQ} {p : Program} {e : Env} {R : Room} {s : State} {mi : MethodId} {args : Array Value} {below : List Frame} {meth : Method} {cd : Code} {H : Heap} {locs : List Loc} {cells slots mc ms : Nat} {arr : Array Slot} {Q : State → Prop} {pc : Nat} {ns : List Nat} {vs : List Int}  (C : xCx l sz0 H00 scr dC dI cA tk xStr Y d m es ls I L G c s0 post p e R s mi args below meth cd H locs cells slots mc ms arr Q) (hd : decode (mC m) pc = .ok (.lrem, 1)) (hf : pcO es (k + 1) = some (pc + 1))  (h : xop Y d m es k (.lrem) ns vs ls st I L G c s0 post) : W p l e R s mi args below meth cd H locs cells slots Q (F0 mi pc arr (st.map (cv sz0 tk))) := by
  have hx := C.2.1.1
  have hb := C.2.1.2.1
  simp only [xop] at h
  split at h
  · rename_i b a r
    exact lv_lrem hx hb hd h.1 (xgo0 C (st' := xl (a - a / b * b) :: r) h.2 hf)
  · exact h.elim
theorem xs_lshl {l : Launch} {sz0 : Nat} {H00 : Heap} {scr : (Int → Int) × Nat} {dC : Nat → ClassId} {dI : Nat → Nat → Nat} {cA : Nat → ClassId} {tk : Nat → Nat} {xStr : State → Prop} {Y : XX} {d m : Nat} {es : List XE} {k : Nat} {ls st : List XV} {I : XI} {L : XL} {G : XG} {c s0 : Nat} {post : XQ} {p : Program} {e : Env} {R : Room} {s : State} {mi : MethodId} {args : Array Value} {below : List Frame} {meth : Method} {cd : Code} {H : Heap} {locs : List Loc} {cells slots mc ms : Nat} {arr : Array Slot} {Q : State → Prop} {pc : Nat} {ns : List Nat} {vs : List Int}  (C : xCx l sz0 H00 scr dC dI cA tk xStr Y d m es ls I L G c s0 post p e R s mi args below meth cd H locs cells slots mc ms arr Q) (hd : decode (mC m) pc = .ok (.lshl, 1)) (hf : pcO es (k + 1) = some (pc + 1))  (h : xop Y d m es k (.lshl) ns vs ls st I L G c s0 post) : W p l e R s mi args below meth cd H locs cells slots Q (F0 mi pc arr (st.map (cv sz0 tk))) := by
  have hx := C.2.1.1
  have hb := C.2.1.2.1
  simp only [xop] at h
  split at h
  · rename_i b a r
    exact lv_lshl (v := xlsh a b) hx hb hd rfl (xgo0 C (st' := xl (xlsh a b) :: r) h hf)
  · exact h.elim
theorem xs_lcmp {l : Launch} {sz0 : Nat} {H00 : Heap} {scr : (Int → Int) × Nat} {dC : Nat → ClassId} {dI : Nat → Nat → Nat} {cA : Nat → ClassId} {tk : Nat → Nat} {xStr : State → Prop} {Y : XX} {d m : Nat} {es : List XE} {k : Nat} {ls st : List XV} {I : XI} {L : XL} {G : XG} {c s0 : Nat} {post : XQ} {p : Program} {e : Env} {R : Room} {s : State} {mi : MethodId} {args : Array Value} {below : List Frame} {meth : Method} {cd : Code} {H : Heap} {locs : List Loc} {cells slots mc ms : Nat} {arr : Array Slot} {Q : State → Prop} {pc : Nat} {ns : List Nat} {vs : List Int}  (C : xCx l sz0 H00 scr dC dI cA tk xStr Y d m es ls I L G c s0 post p e R s mi args below meth cd H locs cells slots mc ms arr Q) (hd : decode (mC m) pc = .ok (.lcmp, 1)) (hf : pcO es (k + 1) = some (pc + 1))  (h : xop Y d m es k (.lcmp) ns vs ls st I L G c s0 post) : W p l e R s mi args below meth cd H locs cells slots Q (F0 mi pc arr (st.map (cv sz0 tk))) := by
  have hx := C.2.1.1
  have hb := C.2.1.2.1
  simp only [xop] at h
  split at h
  · rename_i b a r
    exact W.lcmp hx hb hd (by rw [← xo_lcm]; exact xgo0 C (st' := xi (xlcm a b) :: r) h hf)
  · exact h.elim
theorem xs_dup {l : Launch} {sz0 : Nat} {H00 : Heap} {scr : (Int → Int) × Nat} {dC : Nat → ClassId} {dI : Nat → Nat → Nat} {cA : Nat → ClassId} {tk : Nat → Nat} {xStr : State → Prop} {Y : XX} {d m : Nat} {es : List XE} {k : Nat} {ls st : List XV} {I : XI} {L : XL} {G : XG} {c s0 : Nat} {post : XQ} {p : Program} {e : Env} {R : Room} {s : State} {mi : MethodId} {args : Array Value} {below : List Frame} {meth : Method} {cd : Code} {H : Heap} {locs : List Loc} {cells slots mc ms : Nat} {arr : Array Slot} {Q : State → Prop} {pc : Nat} {ns : List Nat} {vs : List Int}  (C : xCx l sz0 H00 scr dC dI cA tk xStr Y d m es ls I L G c s0 post p e R s mi args below meth cd H locs cells slots mc ms arr Q) (hd : decode (mC m) pc = .ok (.dup, 1)) (hf : pcO es (k + 1) = some (pc + 1))  (h : xop Y d m es k (.dup) ns vs ls st I L G c s0 post) : W p l e R s mi args below meth cd H locs cells slots Q (F0 mi pc arr (st.map (cv sz0 tk))) := by
  have hx := C.2.1.1
  have hb := C.2.1.2.1
  simp only [xop] at h
  split at h
  · rename_i v r
    cases hc : xcat1 v with
    | false => simp [hc] at h
    | true =>
      simp only [hc, cond] at h
      exact lv_dup hx hb hd (cv_cat1 hc) (xgo0 C (st' := v :: v :: r) h hf)
  · exact h.elim
theorem xs_pop {l : Launch} {sz0 : Nat} {H00 : Heap} {scr : (Int → Int) × Nat} {dC : Nat → ClassId} {dI : Nat → Nat → Nat} {cA : Nat → ClassId} {tk : Nat → Nat} {xStr : State → Prop} {Y : XX} {d m : Nat} {es : List XE} {k : Nat} {ls st : List XV} {I : XI} {L : XL} {G : XG} {c s0 : Nat} {post : XQ} {p : Program} {e : Env} {R : Room} {s : State} {mi : MethodId} {args : Array Value} {below : List Frame} {meth : Method} {cd : Code} {H : Heap} {locs : List Loc} {cells slots mc ms : Nat} {arr : Array Slot} {Q : State → Prop} {pc : Nat} {ns : List Nat} {vs : List Int}  (C : xCx l sz0 H00 scr dC dI cA tk xStr Y d m es ls I L G c s0 post p e R s mi args below meth cd H locs cells slots mc ms arr Q) (hd : decode (mC m) pc = .ok (.pop, 1)) (hf : pcO es (k + 1) = some (pc + 1))  (h : xop Y d m es k (.pop) ns vs ls st I L G c s0 post) : W p l e R s mi args below meth cd H locs cells slots Q (F0 mi pc arr (st.map (cv sz0 tk))) := by
  have hx := C.2.1.1
  have hb := C.2.1.2.1
  simp only [xop] at h
  split at h
  · rename_i v r
    cases hc : xcat1 v with
    | false => simp [hc] at h
    | true =>
      simp only [hc, cond] at h
      exact lv_pop hx hb hd (cv_cat1 hc) (xgo0 C (st' := r) h hf)
  · exact h.elim
theorem xs_dup2 {l : Launch} {sz0 : Nat} {H00 : Heap} {scr : (Int → Int) × Nat} {dC : Nat → ClassId} {dI : Nat → Nat → Nat} {cA : Nat → ClassId} {tk : Nat → Nat} {xStr : State → Prop} {Y : XX} {d m : Nat} {es : List XE} {k : Nat} {ls st : List XV} {I : XI} {L : XL} {G : XG} {c s0 : Nat} {post : XQ} {p : Program} {e : Env} {R : Room} {s : State} {mi : MethodId} {args : Array Value} {below : List Frame} {meth : Method} {cd : Code} {H : Heap} {locs : List Loc} {cells slots mc ms : Nat} {arr : Array Slot} {Q : State → Prop} {pc : Nat} {ns : List Nat} {vs : List Int}  (C : xCx l sz0 H00 scr dC dI cA tk xStr Y d m es ls I L G c s0 post p e R s mi args below meth cd H locs cells slots mc ms arr Q) (hd : decode (mC m) pc = .ok (.dup2, 1)) (hf : pcO es (k + 1) = some (pc + 1))  (h : xop Y d m es k (.dup2) ns vs ls st I L G c s0 post) : W p l e R s mi args below meth cd H locs cells slots Q (F0 mi pc arr (st.map (cv sz0 tk))) := by
  have hx := C.2.1.1
  have hb := C.2.1.2.1
  simp only [xop] at h
  split at h
  · rename_i x r
    exact lv_dup2_2 hx hb hd rfl (xgo0 C (st' := xl x :: xl x :: r) h hf)
  · rename_i v w r _
    cases hc : xcat1 v with
    | false => simp [hc] at h
    | true =>
      cases hc2 : xcat1 w with
      | false => simp [hc, hc2] at h
      | true =>
        simp only [hc, hc2, Bool.and_self, cond] at h
        exact lv_dup2_11 hx hb hd (cv_cat1 hc) (cv_cat1 hc2) (xgo0 C (st' := v :: w :: v :: w :: r) h hf)
  · exact h.elim
theorem xs_iload {l : Launch} {sz0 : Nat} {H00 : Heap} {scr : (Int → Int) × Nat} {dC : Nat → ClassId} {dI : Nat → Nat → Nat} {cA : Nat → ClassId} {tk : Nat → Nat} {xStr : State → Prop} {Y : XX} {d m : Nat} {es : List XE} {k : Nat} {ls st : List XV} {I : XI} {L : XL} {G : XG} {c s0 : Nat} {post : XQ} {p : Program} {e : Env} {R : Room} {s : State} {mi : MethodId} {args : Array Value} {below : List Frame} {meth : Method} {cd : Code} {H : Heap} {locs : List Loc} {cells slots mc ms : Nat} {arr : Array Slot} {Q : State → Prop} {pc : Nat} {ns : List Nat} {vs : List Int} {n : Nat} (C : xCx l sz0 H00 scr dC dI cA tk xStr Y d m es ls I L G c s0 post p e R s mi args below meth cd H locs cells slots mc ms arr Q) (hd : decode (mC m) pc = .ok (.iload n, 2)) (hf : pcO es (k + 1) = some (pc + 2))  (h : xop Y d m es k (.iload n) ns vs ls st I L G c s0 post) : W p l e R s mi args below meth cd H locs cells slots Q (F0 mi pc arr (st.map (cv sz0 tk))) := by
  have hx := C.2.1.1
  have hb := C.2.1.2.1
  simp only [xop] at h
  split at h
  · rename_i a heq
    exact lv_iload hx hb hd  (C.2.2.2.2.2.2.2.1.2.2.2 _ _ heq rfl) (xgo0 C (st' := xi a :: st) h hf)
  · exact h.elim
theorem xs_iload_n {l : Launch} {sz0 : Nat} {H00 : Heap} {scr : (Int → Int) × Nat} {dC : Nat → ClassId} {dI : Nat → Nat → Nat} {cA : Nat → ClassId} {tk : Nat → Nat} {xStr : State → Prop} {Y : XX} {d m : Nat} {es : List XE} {k : Nat} {ls st : List XV} {I : XI} {L : XL} {G : XG} {c s0 : Nat} {post : XQ} {p : Program} {e : Env} {R : Room} {s : State} {mi : MethodId} {args : Array Value} {below : List Frame} {meth : Method} {cd : Code} {H : Heap} {locs : List Loc} {cells slots mc ms : Nat} {arr : Array Slot} {Q : State → Prop} {pc : Nat} {ns : List Nat} {vs : List Int} {n : Fin 4} (C : xCx l sz0 H00 scr dC dI cA tk xStr Y d m es ls I L G c s0 post p e R s mi args below meth cd H locs cells slots mc ms arr Q) (hd : decode (mC m) pc = .ok (.iload_n n, 1)) (hf : pcO es (k + 1) = some (pc + 1))  (h : xop Y d m es k (.iload_n n) ns vs ls st I L G c s0 post) : W p l e R s mi args below meth cd H locs cells slots Q (F0 mi pc arr (st.map (cv sz0 tk))) := by
  have hx := C.2.1.1
  have hb := C.2.1.2.1
  simp only [xop] at h
  split at h
  · rename_i a heq
    exact lv_iload_n hx hb hd rfl (C.2.2.2.2.2.2.2.1.2.2.2 _ _ heq rfl) (xgo0 C (st' := xi a :: st) h hf)
  · exact h.elim
theorem xs_lload {l : Launch} {sz0 : Nat} {H00 : Heap} {scr : (Int → Int) × Nat} {dC : Nat → ClassId} {dI : Nat → Nat → Nat} {cA : Nat → ClassId} {tk : Nat → Nat} {xStr : State → Prop} {Y : XX} {d m : Nat} {es : List XE} {k : Nat} {ls st : List XV} {I : XI} {L : XL} {G : XG} {c s0 : Nat} {post : XQ} {p : Program} {e : Env} {R : Room} {s : State} {mi : MethodId} {args : Array Value} {below : List Frame} {meth : Method} {cd : Code} {H : Heap} {locs : List Loc} {cells slots mc ms : Nat} {arr : Array Slot} {Q : State → Prop} {pc : Nat} {ns : List Nat} {vs : List Int} {n : Nat} (C : xCx l sz0 H00 scr dC dI cA tk xStr Y d m es ls I L G c s0 post p e R s mi args below meth cd H locs cells slots mc ms arr Q) (hd : decode (mC m) pc = .ok (.lload n, 2)) (hf : pcO es (k + 1) = some (pc + 2))  (h : xop Y d m es k (.lload n) ns vs ls st I L G c s0 post) : W p l e R s mi args below meth cd H locs cells slots Q (F0 mi pc arr (st.map (cv sz0 tk))) := by
  have hx := C.2.1.1
  have hb := C.2.1.2.1
  simp only [xop] at h
  split at h
  · rename_i a heq
    exact lv_lload hx hb hd  (C.2.2.2.2.2.2.2.1.2.2.2 _ _ heq rfl) (xgo0 C (st' := xl a :: st) h hf)
  · exact h.elim
theorem xs_lload_n {l : Launch} {sz0 : Nat} {H00 : Heap} {scr : (Int → Int) × Nat} {dC : Nat → ClassId} {dI : Nat → Nat → Nat} {cA : Nat → ClassId} {tk : Nat → Nat} {xStr : State → Prop} {Y : XX} {d m : Nat} {es : List XE} {k : Nat} {ls st : List XV} {I : XI} {L : XL} {G : XG} {c s0 : Nat} {post : XQ} {p : Program} {e : Env} {R : Room} {s : State} {mi : MethodId} {args : Array Value} {below : List Frame} {meth : Method} {cd : Code} {H : Heap} {locs : List Loc} {cells slots mc ms : Nat} {arr : Array Slot} {Q : State → Prop} {pc : Nat} {ns : List Nat} {vs : List Int} {n : Fin 4} (C : xCx l sz0 H00 scr dC dI cA tk xStr Y d m es ls I L G c s0 post p e R s mi args below meth cd H locs cells slots mc ms arr Q) (hd : decode (mC m) pc = .ok (.lload_n n, 1)) (hf : pcO es (k + 1) = some (pc + 1))  (h : xop Y d m es k (.lload_n n) ns vs ls st I L G c s0 post) : W p l e R s mi args below meth cd H locs cells slots Q (F0 mi pc arr (st.map (cv sz0 tk))) := by
  have hx := C.2.1.1
  have hb := C.2.1.2.1
  simp only [xop] at h
  split at h
  · rename_i a heq
    exact lv_lload_n hx hb hd rfl (C.2.2.2.2.2.2.2.1.2.2.2 _ _ heq rfl) (xgo0 C (st' := xl a :: st) h hf)
  · exact h.elim
theorem xs_aload {l : Launch} {sz0 : Nat} {H00 : Heap} {scr : (Int → Int) × Nat} {dC : Nat → ClassId} {dI : Nat → Nat → Nat} {cA : Nat → ClassId} {tk : Nat → Nat} {xStr : State → Prop} {Y : XX} {d m : Nat} {es : List XE} {k : Nat} {ls st : List XV} {I : XI} {L : XL} {G : XG} {c s0 : Nat} {post : XQ} {p : Program} {e : Env} {R : Room} {s : State} {mi : MethodId} {args : Array Value} {below : List Frame} {meth : Method} {cd : Code} {H : Heap} {locs : List Loc} {cells slots mc ms : Nat} {arr : Array Slot} {Q : State → Prop} {pc : Nat} {ns : List Nat} {vs : List Int} {n : Nat} (C : xCx l sz0 H00 scr dC dI cA tk xStr Y d m es ls I L G c s0 post p e R s mi args below meth cd H locs cells slots mc ms arr Q) (hd : decode (mC m) pc = .ok (.aload n, 2)) (hf : pcO es (k + 1) = some (pc + 2))  (h : xop Y d m es k (.aload n) ns vs ls st I L G c s0 post) : W p l e R s mi args below meth cd H locs cells slots Q (F0 mi pc arr (st.map (cv sz0 tk))) := by
  have hx := C.2.1.1
  have hb := C.2.1.2.1
  simp only [xop] at h
  split at h
  · rename_i a heq
    cases a with
    | none => exact lv_aloadN hx hb hd (C.2.2.2.2.2.2.2.1.2.2.2 _ _ heq rfl) (xgo0 C (st' := xr none :: st) h hf)
    | some i => exact lv_aload hx hb hd (C.2.2.2.2.2.2.2.1.2.2.2 _ _ heq rfl) (xgo0 C (st' := xr (some i) :: st) h hf)
  · exact h.elim
theorem xs_aload_n {l : Launch} {sz0 : Nat} {H00 : Heap} {scr : (Int → Int) × Nat} {dC : Nat → ClassId} {dI : Nat → Nat → Nat} {cA : Nat → ClassId} {tk : Nat → Nat} {xStr : State → Prop} {Y : XX} {d m : Nat} {es : List XE} {k : Nat} {ls st : List XV} {I : XI} {L : XL} {G : XG} {c s0 : Nat} {post : XQ} {p : Program} {e : Env} {R : Room} {s : State} {mi : MethodId} {args : Array Value} {below : List Frame} {meth : Method} {cd : Code} {H : Heap} {locs : List Loc} {cells slots mc ms : Nat} {arr : Array Slot} {Q : State → Prop} {pc : Nat} {ns : List Nat} {vs : List Int} {n : Fin 4} (C : xCx l sz0 H00 scr dC dI cA tk xStr Y d m es ls I L G c s0 post p e R s mi args below meth cd H locs cells slots mc ms arr Q) (hd : decode (mC m) pc = .ok (.aload_n n, 1)) (hf : pcO es (k + 1) = some (pc + 1))  (h : xop Y d m es k (.aload_n n) ns vs ls st I L G c s0 post) : W p l e R s mi args below meth cd H locs cells slots Q (F0 mi pc arr (st.map (cv sz0 tk))) := by
  have hx := C.2.1.1
  have hb := C.2.1.2.1
  simp only [xop] at h
  split at h
  · rename_i a heq
    cases a with
    | none => exact lv_aload_nN hx hb hd rfl (C.2.2.2.2.2.2.2.1.2.2.2 _ _ heq rfl) (xgo0 C (st' := xr none :: st) h hf)
    | some i => exact lv_aload_n hx hb hd rfl (C.2.2.2.2.2.2.2.1.2.2.2 _ _ heq rfl) (xgo0 C (st' := xr (some i) :: st) h hf)
  · rename_i heq
    exact lv_aload_n hx hb hd rfl (C.2.2.2.2.2.2.2.1.2.2.2 _ _ heq rfl) (xgo0 C (st' := xt 2 :: st) h hf)
  · exact h.elim
theorem xs_istore {l : Launch} {sz0 : Nat} {H00 : Heap} {scr : (Int → Int) × Nat} {dC : Nat → ClassId} {dI : Nat → Nat → Nat} {cA : Nat → ClassId} {tk : Nat → Nat} {xStr : State → Prop} {Y : XX} {d m : Nat} {es : List XE} {k : Nat} {ls st : List XV} {I : XI} {L : XL} {G : XG} {c s0 : Nat} {post : XQ} {p : Program} {e : Env} {R : Room} {s : State} {mi : MethodId} {args : Array Value} {below : List Frame} {meth : Method} {cd : Code} {H : Heap} {locs : List Loc} {cells slots mc ms : Nat} {arr : Array Slot} {Q : State → Prop} {pc : Nat} {ns : List Nat} {vs : List Int} {n : Nat} (C : xCx l sz0 H00 scr dC dI cA tk xStr Y d m es ls I L G c s0 post p e R s mi args below meth cd H locs cells slots mc ms arr Q) (hd : decode (mC m) pc = .ok (.istore n, 2)) (hf : pcO es (k + 1) = some (pc + 2))  (h : xop Y d m es k (.istore n) ns vs ls st I L G c s0 post) : W p l e R s mi args below meth cd H locs cells slots Q (F0 mi pc arr (st.map (cv sz0 tk))) := by
  have hx := C.2.1.1
  have hb := C.2.1.2.1
  simp only [xop] at h
  have hlen := C.2.2.2.2.2.2.2.1.1
  split at h
  · rename_i a r
    cases hc : Nat.blt (n) ls.length with
    | false => simp [hc] at h
    | true =>
      simp only [hc, cond] at h
      have hlt : n < mL m := by rw [← hlen]; exact Nat.blt_eq.mp hc
      exact lv_istore hx hb hd  (C.2.2.2.2.2.2.2.1.has) hlt rfl (fun arr' hl' => xgoL C (st' := r) h hf (xLv.st1 (v := xi a) hlen hlt hl'))
  · exact h.elim
theorem xs_istore_n {l : Launch} {sz0 : Nat} {H00 : Heap} {scr : (Int → Int) × Nat} {dC : Nat → ClassId} {dI : Nat → Nat → Nat} {cA : Nat → ClassId} {tk : Nat → Nat} {xStr : State → Prop} {Y : XX} {d m : Nat} {es : List XE} {k : Nat} {ls st : List XV} {I : XI} {L : XL} {G : XG} {c s0 : Nat} {post : XQ} {p : Program} {e : Env} {R : Room} {s : State} {mi : MethodId} {args : Array Value} {below : List Frame} {meth : Method} {cd : Code} {H : Heap} {locs : List Loc} {cells slots mc ms : Nat} {arr : Array Slot} {Q : State → Prop} {pc : Nat} {ns : List Nat} {vs : List Int} {n : Fin 4} (C : xCx l sz0 H00 scr dC dI cA tk xStr Y d m es ls I L G c s0 post p e R s mi args below meth cd H locs cells slots mc ms arr Q) (hd : decode (mC m) pc = .ok (.istore_n n, 1)) (hf : pcO es (k + 1) = some (pc + 1))  (h : xop Y d m es k (.istore_n n) ns vs ls st I L G c s0 post) : W p l e R s mi args below meth cd H locs cells slots Q (F0 mi pc arr (st.map (cv sz0 tk))) := by
  have hx := C.2.1.1
  have hb := C.2.1.2.1
  simp only [xop] at h
  have hlen := C.2.2.2.2.2.2.2.1.1
  split at h
  · rename_i a r
    cases hc : Nat.blt (n.val) ls.length with
    | false => simp [hc] at h
    | true =>
      simp only [hc, cond] at h
      have hlt : n.val < mL m := by rw [← hlen]; exact Nat.blt_eq.mp hc
      exact lv_istore_n hx hb hd rfl (C.2.2.2.2.2.2.2.1.has) hlt rfl (fun arr' hl' => xgoL C (st' := r) h hf (xLv.st1 (v := xi a) hlen hlt hl'))
  · exact h.elim
theorem xs_lstore {l : Launch} {sz0 : Nat} {H00 : Heap} {scr : (Int → Int) × Nat} {dC : Nat → ClassId} {dI : Nat → Nat → Nat} {cA : Nat → ClassId} {tk : Nat → Nat} {xStr : State → Prop} {Y : XX} {d m : Nat} {es : List XE} {k : Nat} {ls st : List XV} {I : XI} {L : XL} {G : XG} {c s0 : Nat} {post : XQ} {p : Program} {e : Env} {R : Room} {s : State} {mi : MethodId} {args : Array Value} {below : List Frame} {meth : Method} {cd : Code} {H : Heap} {locs : List Loc} {cells slots mc ms : Nat} {arr : Array Slot} {Q : State → Prop} {pc : Nat} {ns : List Nat} {vs : List Int} {n : Nat} (C : xCx l sz0 H00 scr dC dI cA tk xStr Y d m es ls I L G c s0 post p e R s mi args below meth cd H locs cells slots mc ms arr Q) (hd : decode (mC m) pc = .ok (.lstore n, 2)) (hf : pcO es (k + 1) = some (pc + 2))  (h : xop Y d m es k (.lstore n) ns vs ls st I L G c s0 post) : W p l e R s mi args below meth cd H locs cells slots Q (F0 mi pc arr (st.map (cv sz0 tk))) := by
  have hx := C.2.1.1
  have hb := C.2.1.2.1
  simp only [xop] at h
  have hlen := C.2.2.2.2.2.2.2.1.1
  split at h
  · rename_i a r
    cases hc : Nat.blt (n + 1) ls.length with
    | false => simp [hc] at h
    | true =>
      simp only [hc, cond] at h
      have hlt : n + 1 < mL m := by rw [← hlen]; exact Nat.blt_eq.mp hc
      exact lv_lstore hx hb hd  (C.2.2.2.2.2.2.2.1.has) hlt rfl (fun arr' hl' => xgoL C (st' := r) h hf (xLv.st2 (v := xl a) hlen hlt hl'))
  · exact h.elim
theorem xs_lstore_n {l : Launch} {sz0 : Nat} {H00 : Heap} {scr : (Int → Int) × Nat} {dC : Nat → ClassId} {dI : Nat → Nat → Nat} {cA : Nat → ClassId} {tk : Nat → Nat} {xStr : State → Prop} {Y : XX} {d m : Nat} {es : List XE} {k : Nat} {ls st : List XV} {I : XI} {L : XL} {G : XG} {c s0 : Nat} {post : XQ} {p : Program} {e : Env} {R : Room} {s : State} {mi : MethodId} {args : Array Value} {below : List Frame} {meth : Method} {cd : Code} {H : Heap} {locs : List Loc} {cells slots mc ms : Nat} {arr : Array Slot} {Q : State → Prop} {pc : Nat} {ns : List Nat} {vs : List Int} {n : Fin 4} (C : xCx l sz0 H00 scr dC dI cA tk xStr Y d m es ls I L G c s0 post p e R s mi args below meth cd H locs cells slots mc ms arr Q) (hd : decode (mC m) pc = .ok (.lstore_n n, 1)) (hf : pcO es (k + 1) = some (pc + 1))  (h : xop Y d m es k (.lstore_n n) ns vs ls st I L G c s0 post) : W p l e R s mi args below meth cd H locs cells slots Q (F0 mi pc arr (st.map (cv sz0 tk))) := by
  have hx := C.2.1.1
  have hb := C.2.1.2.1
  simp only [xop] at h
  have hlen := C.2.2.2.2.2.2.2.1.1
  split at h
  · rename_i a r
    cases hc : Nat.blt (n.val + 1) ls.length with
    | false => simp [hc] at h
    | true =>
      simp only [hc, cond] at h
      have hlt : n.val + 1 < mL m := by rw [← hlen]; exact Nat.blt_eq.mp hc
      exact lv_lstore_n hx hb hd rfl (C.2.2.2.2.2.2.2.1.has) hlt rfl (fun arr' hl' => xgoL C (st' := r) h hf (xLv.st2 (v := xl a) hlen hlt hl'))
  · exact h.elim
theorem xs_astore {l : Launch} {sz0 : Nat} {H00 : Heap} {scr : (Int → Int) × Nat} {dC : Nat → ClassId} {dI : Nat → Nat → Nat} {cA : Nat → ClassId} {tk : Nat → Nat} {xStr : State → Prop} {Y : XX} {d m : Nat} {es : List XE} {k : Nat} {ls st : List XV} {I : XI} {L : XL} {G : XG} {c s0 : Nat} {post : XQ} {p : Program} {e : Env} {R : Room} {s : State} {mi : MethodId} {args : Array Value} {below : List Frame} {meth : Method} {cd : Code} {H : Heap} {locs : List Loc} {cells slots mc ms : Nat} {arr : Array Slot} {Q : State → Prop} {pc : Nat} {ns : List Nat} {vs : List Int} {n : Nat} (C : xCx l sz0 H00 scr dC dI cA tk xStr Y d m es ls I L G c s0 post p e R s mi args below meth cd H locs cells slots mc ms arr Q) (hd : decode (mC m) pc = .ok (.astore n, 2)) (hf : pcO es (k + 1) = some (pc + 2))  (h : xop Y d m es k (.astore n) ns vs ls st I L G c s0 post) : W p l e R s mi args below meth cd H locs cells slots Q (F0 mi pc arr (st.map (cv sz0 tk))) := by
  have hx := C.2.1.1
  have hb := C.2.1.2.1
  simp only [xop] at h
  have hlen := C.2.2.2.2.2.2.2.1.1
  split at h
  · rename_i a r
    cases hc : Nat.blt (n) ls.length with
    | false => simp [hc] at h
    | true =>
      simp only [hc, cond] at h
      have hlt : n < mL m := by rw [← hlen]; exact Nat.blt_eq.mp hc
      cases a with
      | none => exact lv_astoreN hx hb hd  (C.2.2.2.2.2.2.2.1.has) hlt rfl (fun arr' hl' => xgoL C (st' := r) h hf (xLv.st1 (v := xr none) hlen hlt hl'))
      | some i => exact lv_astore hx hb hd  (C.2.2.2.2.2.2.2.1.has) hlt rfl (fun arr' hl' => xgoL C (st' := r) h hf (xLv.st1 (v := xr (some i)) hlen hlt hl'))
  · exact h.elim
theorem xs_astore_n {l : Launch} {sz0 : Nat} {H00 : Heap} {scr : (Int → Int) × Nat} {dC : Nat → ClassId} {dI : Nat → Nat → Nat} {cA : Nat → ClassId} {tk : Nat → Nat} {xStr : State → Prop} {Y : XX} {d m : Nat} {es : List XE} {k : Nat} {ls st : List XV} {I : XI} {L : XL} {G : XG} {c s0 : Nat} {post : XQ} {p : Program} {e : Env} {R : Room} {s : State} {mi : MethodId} {args : Array Value} {below : List Frame} {meth : Method} {cd : Code} {H : Heap} {locs : List Loc} {cells slots mc ms : Nat} {arr : Array Slot} {Q : State → Prop} {pc : Nat} {ns : List Nat} {vs : List Int} {n : Fin 4} (C : xCx l sz0 H00 scr dC dI cA tk xStr Y d m es ls I L G c s0 post p e R s mi args below meth cd H locs cells slots mc ms arr Q) (hd : decode (mC m) pc = .ok (.astore_n n, 1)) (hf : pcO es (k + 1) = some (pc + 1))  (h : xop Y d m es k (.astore_n n) ns vs ls st I L G c s0 post) : W p l e R s mi args below meth cd H locs cells slots Q (F0 mi pc arr (st.map (cv sz0 tk))) := by
  have hx := C.2.1.1
  have hb := C.2.1.2.1
  simp only [xop] at h
  have hlen := C.2.2.2.2.2.2.2.1.1
  split at h
  · rename_i a r
    cases hc : Nat.blt (n.val) ls.length with
    | false => simp [hc] at h
    | true =>
      simp only [hc, cond] at h
      have hlt : n.val < mL m := by rw [← hlen]; exact Nat.blt_eq.mp hc
      cases a with
      | none => exact lv_astore_nN hx hb hd rfl (C.2.2.2.2.2.2.2.1.has) hlt rfl (fun arr' hl' => xgoL C (st' := r) h hf (xLv.st1 (v := xr none) hlen hlt hl'))
      | some i => exact lv_astore_n hx hb hd rfl (C.2.2.2.2.2.2.2.1.has) hlt rfl (fun arr' hl' => xgoL C (st' := r) h hf (xLv.st1 (v := xr (some i)) hlen hlt hl'))
  · exact h.elim
theorem xs_iinc {l : Launch} {sz0 : Nat} {H00 : Heap} {scr : (Int → Int) × Nat} {dC : Nat → ClassId} {dI : Nat → Nat → Nat} {cA : Nat → ClassId} {tk : Nat → Nat} {xStr : State → Prop} {Y : XX} {d m : Nat} {es : List XE} {k : Nat} {ls st : List XV} {I : XI} {L : XL} {G : XG} {c s0 : Nat} {post : XQ} {p : Program} {e : Env} {R : Room} {s : State} {mi : MethodId} {args : Array Value} {below : List Frame} {meth : Method} {cd : Code} {H : Heap} {locs : List Loc} {cells slots mc ms : Nat} {arr : Array Slot} {Q : State → Prop} {pc : Nat} {ns : List Nat} {vs : List Int} {n : Nat} {v : Int} (C : xCx l sz0 H00 scr dC dI cA tk xStr Y d m es ls I L G c s0 post p e R s mi args below meth cd H locs cells slots mc ms arr Q) (hd : decode (mC m) pc = .ok (.iinc n v, 3)) (hf : pcO es (k + 1) = some (pc + 3))  (h : xop Y d m es k (.iinc n v) ns vs ls st I L G c s0 post) : W p l e R s mi args below meth cd H locs cells slots Q (F0 mi pc arr (st.map (cv sz0 tk))) := by
  have hx := C.2.1.1
  have hb := C.2.1.2.1
  simp only [xop] at h
  have hlen := C.2.2.2.2.2.2.2.1.1
  split at h
  · rename_i a heq
    have hlt : n < mL m := by rw [← hlen]; exact (List.getElem?_eq_some_iff.mp heq).1
    have hm : (n, Value.int (Int32.ofInt a)) ∈ xlv sz0 tk ls := xlv_mem.mpr ⟨xi a, heq, rfl, rfl⟩
    obtain ⟨k0, hk0⟩ := List.getElem?_of_mem hm
    exact lv_iinc hx hb hd (C.2.2.2.2.2.2.2.1.has) hk0 (Int32.ofInt_add a v).symm hlt rfl (fun arr' hl' => xgoL C (st' := st) h hf (xLv.st1 (v := xi (a + v)) hlen hlt hl'))
  · exact h.elim
