theorem xz0 : xrg 0 := ⟨by decide, by decide⟩
theorem xo_eq0 {a : Int} (ha : xrg a) : Int32.ofInt a = 0 ↔ a = 0 := by have := xo_eq ha xz0; rwa [xo_0] at this
theorem xo_lt0 {a : Int} (ha : xrg a) : Int32.ofInt a < 0 ↔ a < 0 := by have := xo_lt ha xz0; rwa [xo_0] at this
theorem xo_le0 {a : Int} (ha : xrg a) : Int32.ofInt a ≤ 0 ↔ a ≤ 0 := by have := xo_le ha xz0; rwa [xo_0] at this
theorem xo_0lt {a : Int} (ha : xrg a) : 0 < Int32.ofInt a ↔ 0 < a := by have := xo_lt xz0 ha; rwa [xo_0] at this
theorem xo_0le {a : Int} (ha : xrg a) : 0 ≤ Int32.ofInt a ↔ 0 ≤ a := by have := xo_le xz0 ha; rwa [xo_0] at this
theorem xs_goto {l : Launch} {sz0 : Nat} {H00 : Heap} {scr : (Int → Int) × Nat} {dC : Nat → ClassId} {dI : Nat → Nat → Nat} {cA : Nat → ClassId} {tk : Nat → Nat} {xStr : State → Prop} {Y : XX} {d m : Nat} {es : List XE} {k : Nat} {ls st : List XV} {I : XI} {L : XL} {G : XG} {c s0 : Nat} {post : XQ} {p : Program} {e : Env} {R : Room} {s : State} {mi : MethodId} {args : Array Value} {below : List Frame} {meth : Method} {cd : Code} {H : Heap} {locs : List Loc} {cells slots mc ms : Nat} {arr : Array Slot} {Q : State → Prop} {pc : Nat} {t pt : Nat} {vs : List Int} {off : Int} (C : xCx l sz0 H00 scr dC dI cA tk xStr Y d m es ls I L G c s0 post p e R s mi args below meth cd H locs cells slots mc ms arr Q) (hd : decode (mC m) pc = .ok (.goto off, 3)) (ht : pcO es t = some pt) (hT : (pc : Int) + off = (pt : Int)) (h : xop Y d m es k (.goto off) [t] vs ls st I L G c s0 post) : W p l e R s mi args below meth cd H locs cells slots Q (F0 mi pc arr (st.map (cv sz0 tk))) := by
  have hx := C.2.1.1
  have hb := C.2.1.2.1
  simp only [xop] at h
  exact lv_goto hx hb hd hT (xgo0 C (st' := st) h ht)
theorem xs_if_eq {l : Launch} {sz0 : Nat} {H00 : Heap} {scr : (Int → Int) × Nat} {dC : Nat → ClassId} {dI : Nat → Nat → Nat} {cA : Nat → ClassId} {tk : Nat → Nat} {xStr : State → Prop} {Y : XX} {d m : Nat} {es : List XE} {k : Nat} {ls st : List XV} {I : XI} {L : XL} {G : XG} {c s0 : Nat} {post : XQ} {p : Program} {e : Env} {R : Room} {s : State} {mi : MethodId} {args : Array Value} {below : List Frame} {meth : Method} {cd : Code} {H : Heap} {locs : List Loc} {cells slots mc ms : Nat} {arr : Array Slot} {Q : State → Prop} {pc : Nat} {t pt : Nat} {vs : List Int} {off : Int} (C : xCx l sz0 H00 scr dC dI cA tk xStr Y d m es ls I L G c s0 post p e R s mi args below meth cd H locs cells slots mc ms arr Q) (hd : decode (mC m) pc = .ok (.ifCond .eq off, 3)) (hf : pcO es (k + 1) = some (pc + 3)) (ht : pcO es t = some pt) (hT : (pc : Int) + off = (pt : Int)) (h : xop Y d m es k (.ifCond .eq off) [t] vs ls st I L G c s0 post) : W p l e R s mi args below meth cd H locs cells slots Q (F0 mi pc arr (st.map (cv sz0 tk))) := by
  have hx := C.2.1.1
  have hb := C.2.1.2.1
  simp only [xop, xbr] at h
  split at h
  · rename_i heq
    cases heq
    rename_i a r
    obtain ⟨ha, h1, h2⟩ := h
    exact lv_if_eq hx hb hd hT (fun q => xgo0 C (st' := r) (h1 ((xo_eq0 ha).mp q)) ht) (fun q => xgo0 C (st' := r) (h2 (fun z => q ((xo_eq0 ha).mpr z))) hf)
  · exact h.elim
theorem xs_icmp_eq {l : Launch} {sz0 : Nat} {H00 : Heap} {scr : (Int → Int) × Nat} {dC : Nat → ClassId} {dI : Nat → Nat → Nat} {cA : Nat → ClassId} {tk : Nat → Nat} {xStr : State → Prop} {Y : XX} {d m : Nat} {es : List XE} {k : Nat} {ls st : List XV} {I : XI} {L : XL} {G : XG} {c s0 : Nat} {post : XQ} {p : Program} {e : Env} {R : Room} {s : State} {mi : MethodId} {args : Array Value} {below : List Frame} {meth : Method} {cd : Code} {H : Heap} {locs : List Loc} {cells slots mc ms : Nat} {arr : Array Slot} {Q : State → Prop} {pc : Nat} {t pt : Nat} {vs : List Int} {off : Int} (C : xCx l sz0 H00 scr dC dI cA tk xStr Y d m es ls I L G c s0 post p e R s mi args below meth cd H locs cells slots mc ms arr Q) (hd : decode (mC m) pc = .ok (.if_icmp .eq off, 3)) (hf : pcO es (k + 1) = some (pc + 3)) (ht : pcO es t = some pt) (hT : (pc : Int) + off = (pt : Int)) (h : xop Y d m es k (.if_icmp .eq off) [t] vs ls st I L G c s0 post) : W p l e R s mi args below meth cd H locs cells slots Q (F0 mi pc arr (st.map (cv sz0 tk))) := by
  have hx := C.2.1.1
  have hb := C.2.1.2.1
  simp only [xop, xbr] at h
  split at h
  · rename_i heq
    cases heq
    rename_i b a r
    obtain ⟨⟨ha, hb2⟩, h1, h2⟩ := h
    exact lv_icmp_eq hx hb hd hT (fun q => xgo0 C (st' := r) (h1 ((xo_eq ha hb2).mp q)) ht) (fun q => xgo0 C (st' := r) (h2 (fun z => q ((xo_eq ha hb2).mpr z))) hf)
  · exact h.elim
theorem xs_if_ne {l : Launch} {sz0 : Nat} {H00 : Heap} {scr : (Int → Int) × Nat} {dC : Nat → ClassId} {dI : Nat → Nat → Nat} {cA : Nat → ClassId} {tk : Nat → Nat} {xStr : State → Prop} {Y : XX} {d m : Nat} {es : List XE} {k : Nat} {ls st : List XV} {I : XI} {L : XL} {G : XG} {c s0 : Nat} {post : XQ} {p : Program} {e : Env} {R : Room} {s : State} {mi : MethodId} {args : Array Value} {below : List Frame} {meth : Method} {cd : Code} {H : Heap} {locs : List Loc} {cells slots mc ms : Nat} {arr : Array Slot} {Q : State → Prop} {pc : Nat} {t pt : Nat} {vs : List Int} {off : Int} (C : xCx l sz0 H00 scr dC dI cA tk xStr Y d m es ls I L G c s0 post p e R s mi args below meth cd H locs cells slots mc ms arr Q) (hd : decode (mC m) pc = .ok (.ifCond .ne off, 3)) (hf : pcO es (k + 1) = some (pc + 3)) (ht : pcO es t = some pt) (hT : (pc : Int) + off = (pt : Int)) (h : xop Y d m es k (.ifCond .ne off) [t] vs ls st I L G c s0 post) : W p l e R s mi args below meth cd H locs cells slots Q (F0 mi pc arr (st.map (cv sz0 tk))) := by
  have hx := C.2.1.1
  have hb := C.2.1.2.1
  simp only [xop, xbr] at h
  split at h
  · rename_i heq
    cases heq
    rename_i a r
    obtain ⟨ha, h1, h2⟩ := h
    exact lv_if_ne hx hb hd hT (fun q => xgo0 C (st' := r) (h1 (fun z => q ((xo_eq0 ha).mpr z))) ht) (fun q => xgo0 C (st' := r) (h2 ((xo_eq0 ha).mp q)) hf)
  · exact h.elim
theorem xs_icmp_ne {l : Launch} {sz0 : Nat} {H00 : Heap} {scr : (Int → Int) × Nat} {dC : Nat → ClassId} {dI : Nat → Nat → Nat} {cA : Nat → ClassId} {tk : Nat → Nat} {xStr : State → Prop} {Y : XX} {d m : Nat} {es : List XE} {k : Nat} {ls st : List XV} {I : XI} {L : XL} {G : XG} {c s0 : Nat} {post : XQ} {p : Program} {e : Env} {R : Room} {s : State} {mi : MethodId} {args : Array Value} {below : List Frame} {meth : Method} {cd : Code} {H : Heap} {locs : List Loc} {cells slots mc ms : Nat} {arr : Array Slot} {Q : State → Prop} {pc : Nat} {t pt : Nat} {vs : List Int} {off : Int} (C : xCx l sz0 H00 scr dC dI cA tk xStr Y d m es ls I L G c s0 post p e R s mi args below meth cd H locs cells slots mc ms arr Q) (hd : decode (mC m) pc = .ok (.if_icmp .ne off, 3)) (hf : pcO es (k + 1) = some (pc + 3)) (ht : pcO es t = some pt) (hT : (pc : Int) + off = (pt : Int)) (h : xop Y d m es k (.if_icmp .ne off) [t] vs ls st I L G c s0 post) : W p l e R s mi args below meth cd H locs cells slots Q (F0 mi pc arr (st.map (cv sz0 tk))) := by
  have hx := C.2.1.1
  have hb := C.2.1.2.1
  simp only [xop, xbr] at h
  split at h
  · rename_i heq
    cases heq
    rename_i b a r
    obtain ⟨⟨ha, hb2⟩, h1, h2⟩ := h
    exact lv_icmp_ne hx hb hd hT (fun q => xgo0 C (st' := r) (h1 (fun z => q ((xo_eq ha hb2).mpr z))) ht) (fun q => xgo0 C (st' := r) (h2 ((xo_eq ha hb2).mp q)) hf)
  · exact h.elim
theorem xs_if_lt {l : Launch} {sz0 : Nat} {H00 : Heap} {scr : (Int → Int) × Nat} {dC : Nat → ClassId} {dI : Nat → Nat → Nat} {cA : Nat → ClassId} {tk : Nat → Nat} {xStr : State → Prop} {Y : XX} {d m : Nat} {es : List XE} {k : Nat} {ls st : List XV} {I : XI} {L : XL} {G : XG} {c s0 : Nat} {post : XQ} {p : Program} {e : Env} {R : Room} {s : State} {mi : MethodId} {args : Array Value} {below : List Frame} {meth : Method} {cd : Code} {H : Heap} {locs : List Loc} {cells slots mc ms : Nat} {arr : Array Slot} {Q : State → Prop} {pc : Nat} {t pt : Nat} {vs : List Int} {off : Int} (C : xCx l sz0 H00 scr dC dI cA tk xStr Y d m es ls I L G c s0 post p e R s mi args below meth cd H locs cells slots mc ms arr Q) (hd : decode (mC m) pc = .ok (.ifCond .lt off, 3)) (hf : pcO es (k + 1) = some (pc + 3)) (ht : pcO es t = some pt) (hT : (pc : Int) + off = (pt : Int)) (h : xop Y d m es k (.ifCond .lt off) [t] vs ls st I L G c s0 post) : W p l e R s mi args below meth cd H locs cells slots Q (F0 mi pc arr (st.map (cv sz0 tk))) := by
  have hx := C.2.1.1
  have hb := C.2.1.2.1
  simp only [xop, xbr] at h
  split at h
  · rename_i heq
    cases heq
    rename_i a r
    obtain ⟨ha, h1, h2⟩ := h
    exact lv_if_lt hx hb hd hT (fun q => xgo0 C (st' := r) (h1 ((xo_lt0 ha).mp q)) ht) (fun q => xgo0 C (st' := r) (h2 (by have := mt (xo_lt0 ha).mpr q; omega)) hf)
  · exact h.elim
theorem xs_icmp_lt {l : Launch} {sz0 : Nat} {H00 : Heap} {scr : (Int → Int) × Nat} {dC : Nat → ClassId} {dI : Nat → Nat → Nat} {cA : Nat → ClassId} {tk : Nat → Nat} {xStr : State → Prop} {Y : XX} {d m : Nat} {es : List XE} {k : Nat} {ls st : List XV} {I : XI} {L : XL} {G : XG} {c s0 : Nat} {post : XQ} {p : Program} {e : Env} {R : Room} {s : State} {mi : MethodId} {args : Array Value} {below : List Frame} {meth : Method} {cd : Code} {H : Heap} {locs : List Loc} {cells slots mc ms : Nat} {arr : Array Slot} {Q : State → Prop} {pc : Nat} {t pt : Nat} {vs : List Int} {off : Int} (C : xCx l sz0 H00 scr dC dI cA tk xStr Y d m es ls I L G c s0 post p e R s mi args below meth cd H locs cells slots mc ms arr Q) (hd : decode (mC m) pc = .ok (.if_icmp .lt off, 3)) (hf : pcO es (k + 1) = some (pc + 3)) (ht : pcO es t = some pt) (hT : (pc : Int) + off = (pt : Int)) (h : xop Y d m es k (.if_icmp .lt off) [t] vs ls st I L G c s0 post) : W p l e R s mi args below meth cd H locs cells slots Q (F0 mi pc arr (st.map (cv sz0 tk))) := by
  have hx := C.2.1.1
  have hb := C.2.1.2.1
  simp only [xop, xbr] at h
  split at h
  · rename_i heq
    cases heq
    rename_i b a r
    obtain ⟨⟨ha, hb2⟩, h1, h2⟩ := h
    exact lv_icmp_lt hx hb hd hT (fun q => xgo0 C (st' := r) (h1 ((xo_lt ha hb2).mp q)) ht) (fun q => xgo0 C (st' := r) (h2 (by have := mt (xo_lt ha hb2).mpr q; omega)) hf)
  · exact h.elim
theorem xs_if_ge {l : Launch} {sz0 : Nat} {H00 : Heap} {scr : (Int → Int) × Nat} {dC : Nat → ClassId} {dI : Nat → Nat → Nat} {cA : Nat → ClassId} {tk : Nat → Nat} {xStr : State → Prop} {Y : XX} {d m : Nat} {es : List XE} {k : Nat} {ls st : List XV} {I : XI} {L : XL} {G : XG} {c s0 : Nat} {post : XQ} {p : Program} {e : Env} {R : Room} {s : State} {mi : MethodId} {args : Array Value} {below : List Frame} {meth : Method} {cd : Code} {H : Heap} {locs : List Loc} {cells slots mc ms : Nat} {arr : Array Slot} {Q : State → Prop} {pc : Nat} {t pt : Nat} {vs : List Int} {off : Int} (C : xCx l sz0 H00 scr dC dI cA tk xStr Y d m es ls I L G c s0 post p e R s mi args below meth cd H locs cells slots mc ms arr Q) (hd : decode (mC m) pc = .ok (.ifCond .ge off, 3)) (hf : pcO es (k + 1) = some (pc + 3)) (ht : pcO es t = some pt) (hT : (pc : Int) + off = (pt : Int)) (h : xop Y d m es k (.ifCond .ge off) [t] vs ls st I L G c s0 post) : W p l e R s mi args below meth cd H locs cells slots Q (F0 mi pc arr (st.map (cv sz0 tk))) := by
  have hx := C.2.1.1
  have hb := C.2.1.2.1
  simp only [xop, xbr] at h
  split at h
  · rename_i heq
    cases heq
    rename_i a r
    obtain ⟨ha, h1, h2⟩ := h
    exact lv_if_ge hx hb hd hT (fun q => xgo0 C (st' := r) (h1 ((xo_0le ha).mp q)) ht) (fun q => xgo0 C (st' := r) (h2 (by have := mt (xo_0le ha).mpr q; omega)) hf)
  · exact h.elim
theorem xs_icmp_ge {l : Launch} {sz0 : Nat} {H00 : Heap} {scr : (Int → Int) × Nat} {dC : Nat → ClassId} {dI : Nat → Nat → Nat} {cA : Nat → ClassId} {tk : Nat → Nat} {xStr : State → Prop} {Y : XX} {d m : Nat} {es : List XE} {k : Nat} {ls st : List XV} {I : XI} {L : XL} {G : XG} {c s0 : Nat} {post : XQ} {p : Program} {e : Env} {R : Room} {s : State} {mi : MethodId} {args : Array Value} {below : List Frame} {meth : Method} {cd : Code} {H : Heap} {locs : List Loc} {cells slots mc ms : Nat} {arr : Array Slot} {Q : State → Prop} {pc : Nat} {t pt : Nat} {vs : List Int} {off : Int} (C : xCx l sz0 H00 scr dC dI cA tk xStr Y d m es ls I L G c s0 post p e R s mi args below meth cd H locs cells slots mc ms arr Q) (hd : decode (mC m) pc = .ok (.if_icmp .ge off, 3)) (hf : pcO es (k + 1) = some (pc + 3)) (ht : pcO es t = some pt) (hT : (pc : Int) + off = (pt : Int)) (h : xop Y d m es k (.if_icmp .ge off) [t] vs ls st I L G c s0 post) : W p l e R s mi args below meth cd H locs cells slots Q (F0 mi pc arr (st.map (cv sz0 tk))) := by
  have hx := C.2.1.1
  have hb := C.2.1.2.1
  simp only [xop, xbr] at h
  split at h
  · rename_i heq
    cases heq
    rename_i b a r
    obtain ⟨⟨ha, hb2⟩, h1, h2⟩ := h
    exact lv_icmp_ge hx hb hd hT (fun q => xgo0 C (st' := r) (h1 ((xo_le hb2 ha).mp q)) ht) (fun q => xgo0 C (st' := r) (h2 (by have := mt (xo_le hb2 ha).mpr q; omega)) hf)
  · exact h.elim
theorem xs_if_gt {l : Launch} {sz0 : Nat} {H00 : Heap} {scr : (Int → Int) × Nat} {dC : Nat → ClassId} {dI : Nat → Nat → Nat} {cA : Nat → ClassId} {tk : Nat → Nat} {xStr : State → Prop} {Y : XX} {d m : Nat} {es : List XE} {k : Nat} {ls st : List XV} {I : XI} {L : XL} {G : XG} {c s0 : Nat} {post : XQ} {p : Program} {e : Env} {R : Room} {s : State} {mi : MethodId} {args : Array Value} {below : List Frame} {meth : Method} {cd : Code} {H : Heap} {locs : List Loc} {cells slots mc ms : Nat} {arr : Array Slot} {Q : State → Prop} {pc : Nat} {t pt : Nat} {vs : List Int} {off : Int} (C : xCx l sz0 H00 scr dC dI cA tk xStr Y d m es ls I L G c s0 post p e R s mi args below meth cd H locs cells slots mc ms arr Q) (hd : decode (mC m) pc = .ok (.ifCond .gt off, 3)) (hf : pcO es (k + 1) = some (pc + 3)) (ht : pcO es t = some pt) (hT : (pc : Int) + off = (pt : Int)) (h : xop Y d m es k (.ifCond .gt off) [t] vs ls st I L G c s0 post) : W p l e R s mi args below meth cd H locs cells slots Q (F0 mi pc arr (st.map (cv sz0 tk))) := by
  have hx := C.2.1.1
  have hb := C.2.1.2.1
  simp only [xop, xbr] at h
  split at h
  · rename_i heq
    cases heq
    rename_i a r
    obtain ⟨ha, h1, h2⟩ := h
    exact lv_if_gt hx hb hd hT (fun q => xgo0 C (st' := r) (h1 ((xo_0lt ha).mp q)) ht) (fun q => xgo0 C (st' := r) (h2 (by have := mt (xo_0lt ha).mpr q; omega)) hf)
  · exact h.elim
theorem xs_icmp_gt {l : Launch} {sz0 : Nat} {H00 : Heap} {scr : (Int → Int) × Nat} {dC : Nat → ClassId} {dI : Nat → Nat → Nat} {cA : Nat → ClassId} {tk : Nat → Nat} {xStr : State → Prop} {Y : XX} {d m : Nat} {es : List XE} {k : Nat} {ls st : List XV} {I : XI} {L : XL} {G : XG} {c s0 : Nat} {post : XQ} {p : Program} {e : Env} {R : Room} {s : State} {mi : MethodId} {args : Array Value} {below : List Frame} {meth : Method} {cd : Code} {H : Heap} {locs : List Loc} {cells slots mc ms : Nat} {arr : Array Slot} {Q : State → Prop} {pc : Nat} {t pt : Nat} {vs : List Int} {off : Int} (C : xCx l sz0 H00 scr dC dI cA tk xStr Y d m es ls I L G c s0 post p e R s mi args below meth cd H locs cells slots mc ms arr Q) (hd : decode (mC m) pc = .ok (.if_icmp .gt off, 3)) (hf : pcO es (k + 1) = some (pc + 3)) (ht : pcO es t = some pt) (hT : (pc : Int) + off = (pt : Int)) (h : xop Y d m es k (.if_icmp .gt off) [t] vs ls st I L G c s0 post) : W p l e R s mi args below meth cd H locs cells slots Q (F0 mi pc arr (st.map (cv sz0 tk))) := by
  have hx := C.2.1.1
  have hb := C.2.1.2.1
  simp only [xop, xbr] at h
  split at h
  · rename_i heq
    cases heq
    rename_i b a r
    obtain ⟨⟨ha, hb2⟩, h1, h2⟩ := h
    exact lv_icmp_gt hx hb hd hT (fun q => xgo0 C (st' := r) (h1 ((xo_lt hb2 ha).mp q)) ht) (fun q => xgo0 C (st' := r) (h2 (by have := mt (xo_lt hb2 ha).mpr q; omega)) hf)
  · exact h.elim
theorem xs_if_le {l : Launch} {sz0 : Nat} {H00 : Heap} {scr : (Int → Int) × Nat} {dC : Nat → ClassId} {dI : Nat → Nat → Nat} {cA : Nat → ClassId} {tk : Nat → Nat} {xStr : State → Prop} {Y : XX} {d m : Nat} {es : List XE} {k : Nat} {ls st : List XV} {I : XI} {L : XL} {G : XG} {c s0 : Nat} {post : XQ} {p : Program} {e : Env} {R : Room} {s : State} {mi : MethodId} {args : Array Value} {below : List Frame} {meth : Method} {cd : Code} {H : Heap} {locs : List Loc} {cells slots mc ms : Nat} {arr : Array Slot} {Q : State → Prop} {pc : Nat} {t pt : Nat} {vs : List Int} {off : Int} (C : xCx l sz0 H00 scr dC dI cA tk xStr Y d m es ls I L G c s0 post p e R s mi args below meth cd H locs cells slots mc ms arr Q) (hd : decode (mC m) pc = .ok (.ifCond .le off, 3)) (hf : pcO es (k + 1) = some (pc + 3)) (ht : pcO es t = some pt) (hT : (pc : Int) + off = (pt : Int)) (h : xop Y d m es k (.ifCond .le off) [t] vs ls st I L G c s0 post) : W p l e R s mi args below meth cd H locs cells slots Q (F0 mi pc arr (st.map (cv sz0 tk))) := by
  have hx := C.2.1.1
  have hb := C.2.1.2.1
  simp only [xop, xbr] at h
  split at h
  · rename_i heq
    cases heq
    rename_i a r
    obtain ⟨ha, h1, h2⟩ := h
    exact lv_if_le hx hb hd hT (fun q => xgo0 C (st' := r) (h1 ((xo_le0 ha).mp q)) ht) (fun q => xgo0 C (st' := r) (h2 (by have := mt (xo_le0 ha).mpr q; omega)) hf)
  · exact h.elim
theorem xs_icmp_le {l : Launch} {sz0 : Nat} {H00 : Heap} {scr : (Int → Int) × Nat} {dC : Nat → ClassId} {dI : Nat → Nat → Nat} {cA : Nat → ClassId} {tk : Nat → Nat} {xStr : State → Prop} {Y : XX} {d m : Nat} {es : List XE} {k : Nat} {ls st : List XV} {I : XI} {L : XL} {G : XG} {c s0 : Nat} {post : XQ} {p : Program} {e : Env} {R : Room} {s : State} {mi : MethodId} {args : Array Value} {below : List Frame} {meth : Method} {cd : Code} {H : Heap} {locs : List Loc} {cells slots mc ms : Nat} {arr : Array Slot} {Q : State → Prop} {pc : Nat} {t pt : Nat} {vs : List Int} {off : Int} (C : xCx l sz0 H00 scr dC dI cA tk xStr Y d m es ls I L G c s0 post p e R s mi args below meth cd H locs cells slots mc ms arr Q) (hd : decode (mC m) pc = .ok (.if_icmp .le off, 3)) (hf : pcO es (k + 1) = some (pc + 3)) (ht : pcO es t = some pt) (hT : (pc : Int) + off = (pt : Int)) (h : xop Y d m es k (.if_icmp .le off) [t] vs ls st I L G c s0 post) : W p l e R s mi args below meth cd H locs cells slots Q (F0 mi pc arr (st.map (cv sz0 tk))) := by
  have hx := C.2.1.1
  have hb := C.2.1.2.1
  simp only [xop, xbr] at h
  split at h
  · rename_i heq
    cases heq
    rename_i b a r
    obtain ⟨⟨ha, hb2⟩, h1, h2⟩ := h
    exact lv_icmp_le hx hb hd hT (fun q => xgo0 C (st' := r) (h1 ((xo_le ha hb2).mp q)) ht) (fun q => xgo0 C (st' := r) (h2 (by have := mt (xo_le ha hb2).mpr q; omega)) hf)
  · exact h.elim
theorem xs_ifnonnull {l : Launch} {sz0 : Nat} {H00 : Heap} {scr : (Int → Int) × Nat} {dC : Nat → ClassId} {dI : Nat → Nat → Nat} {cA : Nat → ClassId} {tk : Nat → Nat} {xStr : State → Prop} {Y : XX} {d m : Nat} {es : List XE} {k : Nat} {ls st : List XV} {I : XI} {L : XL} {G : XG} {c s0 : Nat} {post : XQ} {p : Program} {e : Env} {R : Room} {s : State} {mi : MethodId} {args : Array Value} {below : List Frame} {meth : Method} {cd : Code} {H : Heap} {locs : List Loc} {cells slots mc ms : Nat} {arr : Array Slot} {Q : State → Prop} {pc : Nat} {t pt : Nat} {vs : List Int} {off : Int} (C : xCx l sz0 H00 scr dC dI cA tk xStr Y d m es ls I L G c s0 post p e R s mi args below meth cd H locs cells slots mc ms arr Q) (hd : decode (mC m) pc = .ok (.ifnonnull off, 3)) (hf : pcO es (k + 1) = some (pc + 3)) (ht : pcO es t = some pt) (hT : (pc : Int) + off = (pt : Int)) (h : xop Y d m es k (.ifnonnull off) [t] vs ls st I L G c s0 post) : W p l e R s mi args below meth cd H locs cells slots Q (F0 mi pc arr (st.map (cv sz0 tk))) := by
  have hx := C.2.1.1
  have hb := C.2.1.2.1
  simp only [xop] at h
  split at h
  · rename_i heq
    cases heq
    rename_i i r
    exact lv_ifnonnull hx hb hd hT (xgo0 C (st' := r) h ht)
  · rename_i heq
    cases heq
    rename_i r
    exact lv_ifnonnullN hx hb hd (xgo0 C (st' := r) h hf)
  · exact h.elim
theorem xsw_out {a : Int} {F : Nat → Prop} {td : Nat} : ∀ (ks : List Int) (ts : List Nat), (∀ k ∈ ks, ¬ a = k) → xsw a F td ks ts → F td := by
  intro ks
  induction ks with
  | nil => intro ts _ h; cases ts <;> exact h
  | cons k ks ih =>
    intro ts hn h
    cases ts with
    | nil => exact h
    | cons t ts => exact ih ts (fun z hz => hn z (List.mem_cons_of_mem _ hz)) (h.2 (hn k List.mem_cons_self))
theorem xsw_in {a : Int} {F : Nat → Prop} {td t : Nat} : ∀ (ks : List Int) (ts : List Nat) (n : Nat), ks[n]? = some a → (∀ j, j < n → ¬ ks[j]? = some a) → ts[n]? = some t → xsw a F td ks ts → F t := by
  intro ks
  induction ks with
  | nil => intro ts n h; simp at h
  | cons k ks ih =>
    intro ts n h hn ht hs
    cases ts with
    | nil => simp at ht
    | cons t0 ts =>
      match n, h, hn, ht with
      | 0, h, _, ht =>
        cases ht
        cases h
        exact hs.1 rfl
      | n + 1, h, hn, ht =>
        exact ih ts n h (fun j hj => hn (j + 1) (by omega)) ht (hs.2 (fun z => hn 0 (by omega) (by rw [z]; rfl)))
theorem xs_tableswitch {l : Launch} {sz0 : Nat} {H00 : Heap} {scr : (Int → Int) × Nat} {dC : Nat → ClassId} {dI : Nat → Nat → Nat} {cA : Nat → ClassId} {tk : Nat → Nat} {xStr : State → Prop} {Y : XX} {d m : Nat} {es : List XE} {k : Nat} {ls st : List XV} {I : XI} {L : XL} {G : XG} {c s0 : Nat} {post : XQ} {p : Program} {e : Env} {R : Room} {s : State} {mi : MethodId} {args : Array Value} {below : List Frame} {meth : Method} {cd : Code} {H : Heap} {locs : List Loc} {cells slots mc ms : Nat} {arr : Array Slot} {Q : State → Prop} {pc : Nat} {td ptd ln : Nat} {ts : List Nat} {vs : List Int} {df lo hi : Int} {offs : Array Int} (C : xCx l sz0 H00 scr dC dI cA tk xStr Y d m es ls I L G c s0 post p e R s mi args below meth cd H locs cells slots mc ms arr Q) (hd : decode (mC m) pc = .ok (.tableswitch df lo hi offs, ln)) (htd : pcO es td = some ptd) (hTd : (pc : Int) + df = (ptd : Int)) (hvs : vs = (List.range ts.length).map (fun (i : Nat) => lo + (i : Int))) (hhi : hi + 1 = lo + (ts.length : Int)) (hts : ∀ i, i < ts.length → ∃ (t pt : Nat) (off : Int), ts[i]? = some t ∧ pcO es t = some pt ∧ offs[i]? = some off ∧ (pc : Int) + off = (pt : Int)) (h : xop Y d m es k (.tableswitch df lo hi offs) (td :: ts) vs ls st I L G c s0 post) : W p l e R s mi args below meth cd H locs cells slots Q (F0 mi pc arr (st.map (cv sz0 tk))) := by
  have hx := C.2.1.1
  have hb := C.2.1.2.1
  simp only [xop] at h
  split at h
  · rename_i heq
    cases heq
    rename_i a r
    obtain ⟨ha, h⟩ := h
    have hto := xo_toInt ha
    by_cases hout : a < lo ∨ hi < a
    · have := xsw_out _ _ (fun z hz => by
        rw [hvs] at hz
        obtain ⟨i, hi2, rfl⟩ := List.mem_map.mp hz
        have := List.mem_range.mp hi2
        omega) h
      exact lv_tableOut hx hb hd (by rw [hto]; exact hout) hTd (xgo0 C (st' := r) this htd)
    · have hn : (a - lo).toNat < ts.length := by omega
      obtain ⟨t, pt, off, g1, g2, g3, g4⟩ := hts _ hn
      have hk : vs[(a - lo).toNat]? = some a := by
        rw [hvs, List.getElem?_map, List.getElem?_range hn]
        simp
        omega
      have := xsw_in _ _ _ hk (fun j hj hz => by
        rw [hvs, List.getElem?_map, List.getElem?_range (by omega)] at hz
        simp at hz
        omega) g1 h
      exact lv_tableIn hx hb hd (by rw [hto]; omega) (by rw [hto]; omega) (by rw [hto]; exact g3) g4 (xgo0 C (st' := r) this g2)
  · exact h.elim
theorem xsw_look {a : Int} {F : Nat → Prop} {td pc : Nat} {es : List XE} {df : Int} : ∀ (ps : List (Int × Int)) (ts : List Nat), ts.length = ps.length → (∃ ptd, pcO es td = some ptd ∧ (pc : Int) + df = (ptd : Int)) → (∀ q ∈ ps.zip ts, ∃ pt, pcO es q.2 = some pt ∧ (pc : Int) + q.1.2 = (pt : Int)) → xsw a F td (ps.map (fun q => q.1)) ts → ∃ t pt, F t ∧ pcO es t = some pt ∧ (pc : Int) + Op.lookupswitch.offset ps df a = (pt : Int) := by
  intro ps
  induction ps with
  | nil =>
    intro ts _ hd _ h
    obtain ⟨ptd, h1, h2⟩ := hd
    cases ts with
    | nil => exact ⟨td, ptd, h, h1, h2⟩
    | cons t ts => exact ⟨td, ptd, h, h1, h2⟩
  | cons q ps ih =>
    intro ts hl hd hz h
    cases ts with
    | nil => simp at hl
    | cons t ts =>
      obtain ⟨key, off⟩ := q
      rw [Op.lookupswitch.offset_cons]
      by_cases ha : a = key
      · rw [if_pos ha.symm]
        obtain ⟨pt, h1, h2⟩ := hz ((key, off), t) (by simp)
        exact ⟨t, pt, h.1 ha, h1, h2⟩
      · rw [if_neg (fun z => ha z.symm)]
        exact ih ts (by simpa using hl) hd (fun q hq => hz q (by simp only [List.zip_cons_cons]; exact List.mem_cons_of_mem _ hq)) (h.2 ha)
theorem xs_lookupswitch {l : Launch} {sz0 : Nat} {H00 : Heap} {scr : (Int → Int) × Nat} {dC : Nat → ClassId} {dI : Nat → Nat → Nat} {cA : Nat → ClassId} {tk : Nat → Nat} {xStr : State → Prop} {Y : XX} {d m : Nat} {es : List XE} {k : Nat} {ls st : List XV} {I : XI} {L : XL} {G : XG} {c s0 : Nat} {post : XQ} {p : Program} {e : Env} {R : Room} {s : State} {mi : MethodId} {args : Array Value} {below : List Frame} {meth : Method} {cd : Code} {H : Heap} {locs : List Loc} {cells slots mc ms : Nat} {arr : Array Slot} {Q : State → Prop} {pc : Nat} {td ln : Nat} {ts : List Nat} {vs : List Int} {df : Int} {ps : Array (Int × Int)} (C : xCx l sz0 H00 scr dC dI cA tk xStr Y d m es ls I L G c s0 post p e R s mi args below meth cd H locs cells slots mc ms arr Q) (hd : decode (mC m) pc = .ok (.lookupswitch df ps, ln)) (hso : (ps.toList.zip (ps.toList.drop 1)).all (fun (a, next) => a.1 < next.1) = true) (htd : ∃ ptd, pcO es td = some ptd ∧ (pc : Int) + df = (ptd : Int)) (hvs : vs = ps.toList.map (fun q => q.1)) (hlen : ts.length = ps.toList.length) (hz : ∀ q ∈ ps.toList.zip ts, ∃ pt, pcO es q.2 = some pt ∧ (pc : Int) + q.1.2 = (pt : Int)) (h : xop Y d m es k (.lookupswitch df ps) (td :: ts) vs ls st I L G c s0 post) : W p l e R s mi args below meth cd H locs cells slots Q (F0 mi pc arr (st.map (cv sz0 tk))) := by
  have hx := C.2.1.1
  have hb := C.2.1.2.1
  simp only [xop] at h
  split at h
  · rename_i heq
    cases heq
    rename_i a r
    obtain ⟨ha, h⟩ := h
    rw [hvs] at h
    obtain ⟨t, pt, g1, g2, g3⟩ := xsw_look ps.toList ts hlen htd hz h
    exact lv_lookup hx hb hd hso (by rw [xo_toInt ha]) g3 (xgo0 C (st' := r) g1 g2)
  · exact h.elim
theorem xs_ldc {l : Launch} {sz0 : Nat} {H00 : Heap} {scr : (Int → Int) × Nat} {dC : Nat → ClassId} {dI : Nat → Nat → Nat} {cA : Nat → ClassId} {tk : Nat → Nat} {xStr : State → Prop} {Y : XX} {d m : Nat} {es : List XE} {k : Nat} {ls st : List XV} {I : XI} {L : XL} {G : XG} {c s0 : Nat} {post : XQ} {p : Program} {e : Env} {R : Room} {s : State} {mi : MethodId} {args : Array Value} {below : List Frame} {meth : Method} {cd : Code} {H : Heap} {locs : List Loc} {cells slots mc ms : Nat} {arr : Array Slot} {Q : State → Prop} {pc : Nat} {j pp : Nat} {v : Int} {idx : Nat} (C : xCx l sz0 H00 scr dC dI cA tk xStr Y d m es ls I L G c s0 post p e R s mi args below meth cd H locs cells slots mc ms arr Q) (hd : decode (mC m) pc = .ok (.ldc idx, 2)) (hf : pcO es (k + 1) = some (pc + 2)) (hk : kT[j]? = some (mO m, idx, v, pp, 0)) (h : xop Y d m es k (.ldc idx) [0, j] [v] ls st I L G c s0 post) : W p l e R s mi args below meth cd H locs cells slots Q (F0 mi pc arr (st.map (cv sz0 tk))) := by
  have hx := C.2.1.1
  have hb := C.2.1.2.1
  simp only [xop] at h
  have hw := C.2.1.2.2.2.2.1 _ (kT_in hk)
  exact lv_ldc hx hb C.2.1.2.2.2.1 hw hd (xgo0 C (st' := xi v :: st) h hf)
theorem xs_ldc_w {l : Launch} {sz0 : Nat} {H00 : Heap} {scr : (Int → Int) × Nat} {dC : Nat → ClassId} {dI : Nat → Nat → Nat} {cA : Nat → ClassId} {tk : Nat → Nat} {xStr : State → Prop} {Y : XX} {d m : Nat} {es : List XE} {k : Nat} {ls st : List XV} {I : XI} {L : XL} {G : XG} {c s0 : Nat} {post : XQ} {p : Program} {e : Env} {R : Room} {s : State} {mi : MethodId} {args : Array Value} {below : List Frame} {meth : Method} {cd : Code} {H : Heap} {locs : List Loc} {cells slots mc ms : Nat} {arr : Array Slot} {Q : State → Prop} {pc : Nat} {j pp : Nat} {v : Int} {idx : Nat} (C : xCx l sz0 H00 scr dC dI cA tk xStr Y d m es ls I L G c s0 post p e R s mi args below meth cd H locs cells slots mc ms arr Q) (hd : decode (mC m) pc = .ok (.ldc_w idx, 3)) (hf : pcO es (k + 1) = some (pc + 3)) (hk : kT[j]? = some (mO m, idx, v, pp, 0)) (h : xop Y d m es k (.ldc_w idx) [0, j] [v] ls st I L G c s0 post) : W p l e R s mi args below meth cd H locs cells slots Q (F0 mi pc arr (st.map (cv sz0 tk))) := by
  have hx := C.2.1.1
  have hb := C.2.1.2.1
  simp only [xop] at h
  have hw := C.2.1.2.2.2.2.1 _ (kT_in hk)
  exact lv_ldcw hx hb C.2.1.2.2.2.1 hw hd (xgo0 C (st' := xi v :: st) h hf)
theorem xs_ldc2_w {l : Launch} {sz0 : Nat} {H00 : Heap} {scr : (Int → Int) × Nat} {dC : Nat → ClassId} {dI : Nat → Nat → Nat} {cA : Nat → ClassId} {tk : Nat → Nat} {xStr : State → Prop} {Y : XX} {d m : Nat} {es : List XE} {k : Nat} {ls st : List XV} {I : XI} {L : XL} {G : XG} {c s0 : Nat} {post : XQ} {p : Program} {e : Env} {R : Room} {s : State} {mi : MethodId} {args : Array Value} {below : List Frame} {meth : Method} {cd : Code} {H : Heap} {locs : List Loc} {cells slots mc ms : Nat} {arr : Array Slot} {Q : State → Prop} {pc : Nat} {j pp : Nat} {ns : List Nat} {v : Int} {idx : Nat} (C : xCx l sz0 H00 scr dC dI cA tk xStr Y d m es ls I L G c s0 post p e R s mi args below meth cd H locs cells slots mc ms arr Q) (hd : decode (mC m) pc = .ok (.ldc2_w idx, 3)) (hf : pcO es (k + 1) = some (pc + 3)) (hk : kT[j]? = some (mO m, idx, v, pp, 1)) (h : xop Y d m es k (.ldc2_w idx) ns [v] ls st I L G c s0 post) : W p l e R s mi args below meth cd H locs cells slots Q (F0 mi pc arr (st.map (cv sz0 tk))) := by
  have hx := C.2.1.1
  have hb := C.2.1.2.1
  simp only [xop] at h
  have hw := C.2.1.2.2.2.2.1 _ (kT_in hk)
  exact lv_ldc2 hx hb C.2.1.2.2.2.1 hw hd (xgo0 C (st' := xl (Int64.ofInt v) :: st) h hf)
theorem xs_getfield {l : Launch} {sz0 : Nat} {H00 : Heap} {scr : (Int → Int) × Nat} {dC : Nat → ClassId} {dI : Nat → Nat → Nat} {cA : Nat → ClassId} {tk : Nat → Nat} {xStr : State → Prop} {Y : XX} {d m : Nat} {es : List XE} {k : Nat} {ls st : List XV} {I : XI} {L : XL} {G : XG} {c s0 : Nat} {post : XQ} {p : Program} {e : Env} {R : Room} {s : State} {mi : MethodId} {args : Array Value} {below : List Frame} {meth : Method} {cd : Code} {H : Heap} {locs : List Loc} {cells slots mc ms : Nat} {arr : Array Slot} {Q : State → Prop} {pc : Nat} {ci j kd f pp : Nat} {idx : Nat} (C : xCx l sz0 H00 scr dC dI cA tk xStr Y d m es ls I L G c s0 post p e R s mi args below meth cd H locs cells slots mc ms arr Q) (hd : decode (mC m) pc = .ok (.getfield idx, 3)) (hf : pcO es (k + 1) = some (pc + 3)) (hk : fT[j]? = some (mO m, idx, ci, f, pp)) (hkd : kd = xKd ci f) (hkd3 : kd ≤ 3) (h : xop Y d m es k (.getfield idx) [ci, j, kd] [(f : Int)] ls st I L G c s0 post) : W p l e R s mi args below meth cd H locs cells slots Q (F0 mi pc arr (st.map (cv sz0 tk))) := by
  have hx := C.2.1.1
  have hb := C.2.1.2.1
  simp only [xop] at h
  obtain ⟨hw, hfN, hci⟩ := fT_in hk
  have hts := C.2.1.2.2.2.2.1
  split at h
  · rename_i heq1 heq2
    cases heq1
    cases heq2
    rename_i i r
    cases hbq : Nat.beq (G.2.1 i).1 (ci + 1) with
    | false => rw [hbq] at h; exact h.elim
    | true =>
      have ht := Nat.eq_of_beq_eq_true hbq
      rw [hbq] at h
      simp only [cond] at h
      have hH := C.2.2.2.2.2.2.1
      obtain ⟨hi, he⟩ := xHp_obj hH ht hci
      have go : ∀ v : XV, cv sz0 tk v = xfv sz0 I L G.1 i ci f → Y d m es (k + 1) ls (v :: r) I L G c s0 post → W p l e R s mi args below meth cd H locs cells slots Q (F0 mi pc arr (Value.ref (sz0 + i) :: r.map (cv sz0 tk))) := by
        intro v hv hy
        exact va_get (D := (dC, dI)) (ci := ci) (C := cn ci) (T := xT ci) (N := xNf ci) hx hb hts (u_in hci) C.2.1.2.2.2.1 C.2.2.1.1 hH.2.2.2.1 i he (xcls_at hci) f hfN (hts _ hw) (fun _ h => h) (v := cv sz0 tk v) (by rw [hv]; exact xfs_at hfN) hd (xgo0 C (st' := v :: r) hy hf)
      have hkd' : xKd ci f = kd := hkd.symm
      match kd, hkd', h with
      | 0, hkd', h => exact go (xi (I i (f : Int))) (by unfold xfv; rw [hkd']; rfl) h
      | 1, hkd', h => exact go (xi (I i (f : Int))) (by unfold xfv; rw [hkd']; rfl) h
      | 2, hkd', h => exact go (xl (L i (f : Int))) (by unfold xfv; rw [hkd']; rfl) h
      | 3, hkd', h => exact go (xr (G.1 i (f : Int))) (by unfold xfv; rw [hkd']; rfl) h
      | kd + 4, hkd', h => omega
  · exact h.elim
