theorem xs_mmax {l : Launch} {sz0 : Nat} {H00 : Heap} {scr : (Int → Int) × Nat} {dC : Nat → ClassId} {dI : Nat → Nat → Nat} {cA : Nat → ClassId} {tk : Nat → Nat} {xStr : State → Prop} {Y : XX} {d m : Nat} {es : List XE} {k : Nat} {ls st : List XV} {I : XI} {L : XL} {G : XG} {c s0 : Nat} {post : XQ} {p : Program} {e : Env} {R : Room} {s : State} {mi : MethodId} {args : Array Value} {below : List Frame} {meth : Method} {cd : Code} {H : Heap} {locs : List Loc} {cells slots mc ms : Nat} {arr : Array Slot} {Q : State → Prop} {pc : Nat} {j pp : Nat} {vs : List Int} {idx : Nat} (C : xCx l sz0 H00 scr dC dI cA tk xStr Y d m es ls I L G c s0 post p e R s mi args below meth cd H locs cells slots mc ms arr Q) (hd : decode (mC m) pc = .ok (.invokestatic idx, 3)) (hf : pcO es (k + 1) = some (pc + 3)) (hk : mT[j]? = some (mO m, idx, 9006, pp, 0)) (h : xop Y d m es k (.invokestatic idx) [9006, j] vs ls st I L G c s0 post) : W p l e R s mi args below meth cd H locs cells slots Q (F0 mi pc arr (st.map (cv sz0 tk))) := by
  have hx := C.2.1.1
  have hb := C.2.1.2.1
  simp only [xop] at h
  have hH := C.2.2.2.2.2.2.1
  have hK := C.2.2.1.1
  have hts := C.2.1.2.2.2.2.1
  have hown := C.2.1.2.2.2.1
  have hR := C.2.2.2.1
  have hml : cd.maxLocals = arr.size := by rw [C.2.1.2.2.1, C.2.2.2.2.2.2.2.1.2.1]
  split at h
  · rename_i b a r
    obtain ⟨⟨ha, hb2, hd1, hw⟩, h⟩ := h
    have hl : Cond.methodLink (cn (mO m)) idx Lib.Math.max.name ∈ lw_g := mT_in hk rfl
    refine va_mmax hx hb hml hown (hts _ hl) (hts _ w_max1) (hts _ w_math) (hts _ w_max2) (by omega) (by rw [xwds_cat]; omega) (by omega) (by omega) hd ?_
    have e : (if Int32.ofInt a < Int32.ofInt b then Int32.ofInt b else Int32.ofInt a) = Int32.ofInt (if a < b then b else a) := by
      by_cases hq : a < b
      · rw [if_pos hq, if_pos ((xo_lt ha hb2).mpr hq)]
      · rw [if_neg hq, if_neg (fun z => hq ((xo_lt ha hb2).mp z))]
    rw [e]
    exact xgo0 C (st' := xi (if a < b then b else a) :: r) h hf
  · exact h.elim
theorem xs_mmin {l : Launch} {sz0 : Nat} {H00 : Heap} {scr : (Int → Int) × Nat} {dC : Nat → ClassId} {dI : Nat → Nat → Nat} {cA : Nat → ClassId} {tk : Nat → Nat} {xStr : State → Prop} {Y : XX} {d m : Nat} {es : List XE} {k : Nat} {ls st : List XV} {I : XI} {L : XL} {G : XG} {c s0 : Nat} {post : XQ} {p : Program} {e : Env} {R : Room} {s : State} {mi : MethodId} {args : Array Value} {below : List Frame} {meth : Method} {cd : Code} {H : Heap} {locs : List Loc} {cells slots mc ms : Nat} {arr : Array Slot} {Q : State → Prop} {pc : Nat} {j pp : Nat} {vs : List Int} {idx : Nat} (C : xCx l sz0 H00 scr dC dI cA tk xStr Y d m es ls I L G c s0 post p e R s mi args below meth cd H locs cells slots mc ms arr Q) (hd : decode (mC m) pc = .ok (.invokestatic idx, 3)) (hf : pcO es (k + 1) = some (pc + 3)) (hk : mT[j]? = some (mO m, idx, 9007, pp, 0)) (h : xop Y d m es k (.invokestatic idx) [9007, j] vs ls st I L G c s0 post) : W p l e R s mi args below meth cd H locs cells slots Q (F0 mi pc arr (st.map (cv sz0 tk))) := by
  have hx := C.2.1.1
  have hb := C.2.1.2.1
  simp only [xop] at h
  have hH := C.2.2.2.2.2.2.1
  have hK := C.2.2.1.1
  have hts := C.2.1.2.2.2.2.1
  have hown := C.2.1.2.2.2.1
  have hR := C.2.2.2.1
  have hml : cd.maxLocals = arr.size := by rw [C.2.1.2.2.1, C.2.2.2.2.2.2.2.1.2.1]
  split at h
  · rename_i b a r
    obtain ⟨⟨ha, hb2, hd1, hw⟩, h⟩ := h
    have hl : Cond.methodLink (cn (mO m)) idx Lib.Math.min.name ∈ lw_g := mT_in hk rfl
    refine va_mmin hx hb hml hown (hts _ hl) (hts _ w_min1) (hts _ w_math) (hts _ w_min2) (by omega) (by rw [xwds_cat]; omega) (by omega) (by omega) hd ?_
    have e : (if Int32.ofInt b < Int32.ofInt a then Int32.ofInt b else Int32.ofInt a) = Int32.ofInt (if b < a then b else a) := by
      by_cases hq : b < a
      · rw [if_pos hq, if_pos ((xo_lt hb2 ha).mpr hq)]
      · rw [if_neg hq, if_neg (fun z => hq ((xo_lt hb2 ha).mp z))]
    rw [e]
    exact xgo0 C (st' := xi (if b < a then b else a) :: r) h hf
  · exact h.elim
theorem xs_objInit {l : Launch} {sz0 : Nat} {H00 : Heap} {scr : (Int → Int) × Nat} {dC : Nat → ClassId} {dI : Nat → Nat → Nat} {cA : Nat → ClassId} {tk : Nat → Nat} {xStr : State → Prop} {Y : XX} {d m : Nat} {es : List XE} {k : Nat} {ls st : List XV} {I : XI} {L : XL} {G : XG} {c s0 : Nat} {post : XQ} {p : Program} {e : Env} {R : Room} {s : State} {mi : MethodId} {args : Array Value} {below : List Frame} {meth : Method} {cd : Code} {H : Heap} {locs : List Loc} {cells slots mc ms : Nat} {arr : Array Slot} {Q : State → Prop} {pc : Nat} {j pp : Nat} {vs : List Int} {idx : Nat} (C : xCx l sz0 H00 scr dC dI cA tk xStr Y d m es ls I L G c s0 post p e R s mi args below meth cd H locs cells slots mc ms arr Q) (hd : decode (mC m) pc = .ok (.invokespecial idx, 3)) (hf : pcO es (k + 1) = some (pc + 3)) (hk : mT[j]? = some (mO m, idx, 9005, pp, 0)) (h : xop Y d m es k (.invokespecial idx) [9005, j] vs ls st I L G c s0 post) : W p l e R s mi args below meth cd H locs cells slots Q (F0 mi pc arr (st.map (cv sz0 tk))) := by
  have hx := C.2.1.1
  have hb := C.2.1.2.1
  simp only [xop] at h
  have hH := C.2.2.2.2.2.2.1
  have hK := C.2.2.1.1
  have hts := C.2.1.2.2.2.2.1
  have hown := C.2.1.2.2.2.1
  have hR := C.2.2.2.1
  have hml : cd.maxLocals = arr.size := by rw [C.2.1.2.2.1, C.2.2.2.2.2.2.2.1.2.1]
  split at h
  · rename_i i r
    obtain ⟨⟨hd1, hw⟩, h⟩ := h
    have hl : Cond.methodLink (cn (mO m)) idx Lib.objectInit ∈ lw_g := mT_in hk rfl
    refine W.objInit hx hb hown (hts _ hl) (hts _ w_ob1) (hts _ w_ob2) rfl hml.symm rfl hd (by omega) ?_ (xgo0 C (st' := r) h hf)
    have := lv_room (m := mi) (pc := pc) (ls := arr) (rest := (xr (some i) :: r).map (cv sz0 tk)) (st := r.map (cv sz0 tk)) (by rw [xwds_cat]; exact hw)
    have h2 := hR.2.1
    exact Nat.le_trans (Nat.add_le_add_right this 12) (by omega)
  · exact h.elim
theorem xcp_ok {I : XI} {i0 i1 : Nat} {sp dp n : Int} (h1 : 0 ≤ sp) (h2 : 0 ≤ dp) (h3 : 0 ≤ n) : (fun (j : Nat) => Int32.ofInt (xsc I i1 (xcp (I i0) (I i1) sp dp n) i1 (j : Int))) = va_cpy (fun (j : Nat) => Int32.ofInt (I i0 (j : Int))) (fun (j : Nat) => Int32.ofInt (I i1 (j : Int))) sp.toNat dp.toNat n.toNat := by
  funext j
  rw [xsc_same]
  unfold xcp va_cpy
  by_cases hj : dp ≤ (j : Int) ∧ (j : Int) < dp + n
  · rw [if_pos hj, if_pos (by omega)]
    congr 2
    omega
  · rw [if_neg hj, if_neg (by omega)]
theorem xs_arraycopy {l : Launch} {sz0 : Nat} {H00 : Heap} {scr : (Int → Int) × Nat} {dC : Nat → ClassId} {dI : Nat → Nat → Nat} {cA : Nat → ClassId} {tk : Nat → Nat} {xStr : State → Prop} {Y : XX} {d m : Nat} {es : List XE} {k : Nat} {ls st : List XV} {I : XI} {L : XL} {G : XG} {c s0 : Nat} {post : XQ} {p : Program} {e : Env} {R : Room} {s : State} {mi : MethodId} {args : Array Value} {below : List Frame} {meth : Method} {cd : Code} {H : Heap} {locs : List Loc} {cells slots mc ms : Nat} {arr : Array Slot} {Q : State → Prop} {pc : Nat} {j pp : Nat} {vs : List Int} {idx : Nat} (C : xCx l sz0 H00 scr dC dI cA tk xStr Y d m es ls I L G c s0 post p e R s mi args below meth cd H locs cells slots mc ms arr Q) (hd : decode (mC m) pc = .ok (.invokestatic idx, 3)) (hf : pcO es (k + 1) = some (pc + 3)) (hk : mT[j]? = some (mO m, idx, 9001, pp, 0)) (h : xop Y d m es k (.invokestatic idx) [9001, j] vs ls st I L G c s0 post) : W p l e R s mi args below meth cd H locs cells slots Q (F0 mi pc arr (st.map (cv sz0 tk))) := by
  have hx := C.2.1.1
  have hb := C.2.1.2.1
  simp only [xop] at h
  have hH := C.2.2.2.2.2.2.1
  have hK := C.2.2.1.1
  have hts := C.2.1.2.2.2.2.1
  have hown := C.2.1.2.2.2.1
  have hR := C.2.2.2.1
  have hml : cd.maxLocals = arr.size := by rw [C.2.1.2.2.1, C.2.2.2.2.2.2.2.1.2.1]
  split at h
  · rename_i n dp i1 sp i0 r
    cases hb1 : Nat.beq (G.2.1 i0).1 101 with
    | false => rw [hb1] at h; exact h.elim
    | true =>
      cases hb2 : Nat.beq (G.2.1 i1).1 101 with
      | false => rw [hb1, hb2] at h; exact h.elim
      | true =>
        rw [hb1, hb2] at h
        simp only [Bool.and_self, cond] at h
        obtain ⟨⟨hsp, hdp, hn, hb0, hb3, hd1, hw⟩, h⟩ := h
        have ht0 := Nat.eq_of_beq_eq_true hb1
        have ht1 := Nat.eq_of_beq_eq_true hb2
        obtain ⟨hi0, he0⟩ := xHp_arr hH ht0 (by decide)
        obtain ⟨hi1, he1⟩ := xHp_arr hH ht1 (by decide)
        have hn0 := hH.2.2.1 i0
        have hn1 := hH.2.2.1 i1
        rw [xac_i (by decide)] at he0 he1
        have hl : Cond.methodLink (cn (mO m)) idx arraycopyName ∈ lw_g := mT_in hk rfl
        intro T hT X
        have hc0 : H[sz0 + i0]? = some (vp_cell (cA 101) ((G.2.1 i0).2, .inl (fun (j : Nat) => Int32.ofInt (I i0 (j : Int))))) := hH.2.2.2.1 i0 _ he0
        have hc1 : H[sz0 + i1]? = some (vp_cell (cA 101) ((G.2.1 i1).2, .inl (fun (j : Nat) => Int32.ofInt (I i1 (j : Int))))) := hH.2.2.2.1 i1 _ he1
        obtain ⟨-, k0, hk0, cm0, hkk0⟩ := (hK.2 0 _ rfl).1 (G.2.1 i0).2 (fun j => .int (Int32.ofInt (I i0 (j : Int))))
        obtain ⟨-, k1, hk1, cm1, hkk1⟩ := (hK.2 0 _ rfl).1 (G.2.1 i1).2 (fun j => .int (Int32.ofInt (I i1 (j : Int))))
        obtain ⟨vm', X', step⟩ := X.arraycopy hx hown (hts _ hl) (hts _ w_ac1) (hts _ w_ac2) (hts _ w_ac3) (src := sz0 + i0) (dst := sz0 + i1) (cs := vp_cell (cA 101) ((G.2.1 i0).2, .inl (fun (j : Nat) => Int32.ofInt (I i0 (j : Int))))) (cd := vp_cell (cA 101) ((G.2.1 i1).2, .inl (fun (j : Nat) => Int32.ofInt (I i1 (j : Int))))) (srcPos := Int32.ofInt sp) (destPos := Int32.ofInt dp) (n := Int32.ofInt n) (by rw [hT]; exact hc0) (by rw [hT]; exact hc1)
          (fun _ h => by cases h) (fun _ h => by cases h) (fun h => by cases h) (fun h => by cases h) hk0 hk1 hkk0 hkk1 (by simp [refKind]) (xo_nneg hsp (by omega)) (xo_nneg hdp (by omega)) (xo_nneg hn (by omega))
          (by rw [xo_toInt ⟨by omega, by omega⟩, xo_toInt ⟨by omega, by omega⟩]; show ¬ _ > ((arrV (cA 101) (G.2.1 i0).2 _).slots.size : Int); rw [arrV_size]; omega)
          (by rw [xo_toInt ⟨by omega, by omega⟩, xo_toInt ⟨by omega, by omega⟩]; show ¬ _ > ((arrV (cA 101) (G.2.1 i1).2 _).slots.size : Int); rw [arrV_size]; omega)
          (fun vm₁ _ i hi => by
            have e : (vp_cell (cA 101) ((G.2.1 i0).2, .inl (fun (j : Nat) => Int32.ofInt (I i0 (j : Int))))).slots.getD ((Int32.ofInt sp).toNatClampNeg + i) .null = .int (Int32.ofInt (I i0 (((Int32.ofInt sp).toNatClampNeg + i : Nat) : Int))) := by
              show (arrV (cA 101) (G.2.1 i0).2 (fun (j : Nat) => .int (Int32.ofInt (I i0 (j : Int))))).slots.getD _ _ = _
              rw [Array.getD_eq_getD_getElem?, arrV_read _ _ (by rw [xo_clamp hn (by omega)] at hi; rw [xo_clamp hsp (by omega)]; omega)]
              rfl
            refine ⟨?_, ?_⟩
            · rw [e]
              rfl
            · rw [e]
              exact trivial)
          (g := F0 mi pc arr (.int (Int32.ofInt n) :: .int (Int32.ofInt dp) :: .ref (sz0 + i1) :: .int (Int32.ofInt sp) :: .ref (sz0 + i0) :: r.map (cv sz0 tk))) rfl hml.symm (rest := r.map (cv sz0 tk)) rfl (by rw [hb]; exact hd) (by omega) (by show 2 * 0 + _ + (5 + 2 + 11) ≤ _; rw [xwds_cat]; omega)
        have e1 : copied (vp_cell (cA 101) ((G.2.1 i0).2, .inl (fun (j : Nat) => Int32.ofInt (I i0 (j : Int))))) (vp_cell (cA 101) ((G.2.1 i1).2, .inl (fun (j : Nat) => Int32.ofInt (I i1 (j : Int))))) (Int32.ofInt sp) (Int32.ofInt dp) (Int32.ofInt n) = vp_cell (cA 101) ((G.2.1 i1).2, .inl (va_cpy (fun (j : Nat) => Int32.ofInt (I i0 (j : Int))) (fun (j : Nat) => Int32.ofInt (I i1 (j : Int))) (Int32.ofInt sp).toNatClampNeg (Int32.ofInt dp).toNatClampNeg (Int32.ofInt n).toNatClampNeg)) := va_copied (fun z => .int z) (cA 101) (cA 101) (fun (j : Nat) => Int32.ofInt (I i0 (j : Int))) (fun (j : Nat) => Int32.ofInt (I i1 (j : Int))) (by rw [xo_clamp hsp (by omega), xo_clamp hn (by omega)]; omega)
        rw [e1, xo_clamp hsp (by omega), xo_clamp hdp (by omega), xo_clamp hn (by omega), ← xcp_ok hsp hdp hn] at X' step
        have hlt : sz0 + i1 < H.size := (Array.getElem?_eq_some_iff.mp hc1).1
        generalize hnc : vp_cell (cA 101) ((G.2.1 i1).2, .inl (fun (j : Nat) => Int32.ofInt (xsc I i1 (xcp (I i0) (I i1) sp dp n) i1 (j : Int)))) = nc at X' step
        have oq : ∀ q : Nat, q ≠ sz0 + i1 → (H.setIfInBounds (sz0 + i1) nc)[q]? = H[q]? := fun q hq => by simp [Array.getElem?_setIfInBounds, Ne.symm hq]
        have z1 : (H.setIfInBounds (sz0 + i1) nc).size = H.size := by simp
        have hS := C.2.2.2.2.2.1
        obtain ⟨t, a1, b1⟩ := xgo C (st' := r) h hf (H' := H.setIfInBounds (sz0 + i1) nc) ⟨by rw [z1]; exact hS.1, fun q g1 g2 => by
            rw [oq q (fun e => g2 (by rw [e]; exact Nat.le_add_right _ _))]
            exact hS.2.1 q g1 g2, fun q hq => by
            rcases List.mem_append.mp hq with h | h
            · exact hS.2.2 q h
            · obtain ⟨z, -, hz⟩ := List.mem_map.mp h
              rw [← hz]
              exact Nat.le_add_right _ _⟩ (xHp_upd hH rfl hi1 z1 oq (by
                rw [xcell_a ht1 (by decide), xac_i (by decide)]
                show (H.setIfInBounds (sz0 + i1) nc)[sz0 + i1]? = some (vp_cell _ _)
                rw [hnc]
                simp [Array.getElem?_setIfInBounds, hlt]) (fun j hj => ⟨xsc_ne I _ hj, rfl, rfl⟩)) C.2.2.2.2.2.2.2.1 C.2.2.2.1.2.2.2.2.1 C.2.2.2.1.2.2.2.2.2 _ (by rw [← hT]; rfl) X'
        exact ⟨t, step t a1, b1⟩
  · exact h.elim
theorem xs_clone {l : Launch} {sz0 : Nat} {H00 : Heap} {scr : (Int → Int) × Nat} {dC : Nat → ClassId} {dI : Nat → Nat → Nat} {cA : Nat → ClassId} {tk : Nat → Nat} {xStr : State → Prop} {Y : XX} {d m : Nat} {es : List XE} {k : Nat} {ls st : List XV} {I : XI} {L : XL} {G : XG} {c s0 : Nat} {post : XQ} {p : Program} {e : Env} {R : Room} {s : State} {mi : MethodId} {args : Array Value} {below : List Frame} {meth : Method} {cd : Code} {H : Heap} {locs : List Loc} {cells slots mc ms : Nat} {arr : Array Slot} {Q : State → Prop} {pc : Nat} {j : Nat} {vs : List Int} {idx : Nat} (C : xCx l sz0 H00 scr dC dI cA tk xStr Y d m es ls I L G c s0 post p e R s mi args below meth cd H locs cells slots mc ms arr Q) (hd : decode (mC m) pc = .ok (.invokevirtual idx, 3)) (hf : pcO es (k + 1) = some (pc + 3)) (hidx : idx = 316) (hm13 : mO m = 13) (h : xop Y d m es k (.invokevirtual idx) [9002, j] vs ls st I L G c s0 post) : W p l e R s mi args below meth cd H locs cells slots Q (F0 mi pc arr (st.map (cv sz0 tk))) := by
  have hx := C.2.1.1
  have hb := C.2.1.2.1
  simp only [xop] at h
  have hH := C.2.2.2.2.2.2.1
  have hK := C.2.2.1.1
  have hts := C.2.1.2.2.2.2.1
  have hown := C.2.1.2.2.2.1
  have hR := C.2.2.2.1
  have hml : cd.maxLocals = arr.size := by rw [C.2.1.2.2.1, C.2.2.2.2.2.2.2.1.2.1]
  split at h
  · rename_i i r
    cases hbq : Nat.beq (G.2.1 i).1 101 with
    | false => rw [hbq] at h; exact h.elim
    | true =>
      rw [hbq] at h
      simp only [cond] at h
      obtain ⟨⟨hd1, hc1, hs1, hw⟩, h⟩ := h
      have ht := Nat.eq_of_beq_eq_true hbq
      obtain ⟨hi, he⟩ := xHp_arr hH ht (by decide)
      have hn := hH.2.2.1 i
      rw [xac_i (by decide)] at he
      subst hidx
      have hown : s.vm.findClass "java/util/Arrays" = some mi.cls := by rw [hm13] at hown; exact hown
      have hnm : s.vm.findClass "[I" = some (cA 101) := (hK.2 0 _ rfl).2
      obtain ⟨c0, t0', f1, f2, f3⟩ := Cond.castable_spec (va_Nw.use (A := args) rfl C.2.2.1.2.2.1)
      cases hnm.symm.trans f1
      intro T hT X
      have hcell : H[sz0 + i]? = some (vp_cell (cA 101) ((G.2.1 i).2, .inl (fun (j : Nat) => Int32.ofInt (I i (j : Int))))) := hH.2.2.2.1 i _ he
      have hcellT : T.heap[sz0 + i]? = some (vp_cell (cA 101) ((G.2.1 i).2, .inl (fun (j : Nat) => Int32.ofInt (I i (j : Int))))) := by rw [hT]; exact hcell
      have hsz : (vp_cell (cA 101) ((G.2.1 i).2, .inl (fun (j : Nat) => Int32.ofInt (I i (j : Int))))).slots.size = (G.2.1 i).2 := arrV_size _ _ _
      obtain ⟨-, kA, hkA, comp, hkind⟩ := State.isArrayOf_alike X.warmed.alike ((hK.2 0 _ rfl).1 0 (fun _ => .null))
      obtain ⟨-, kS, hkS, compS, hkindS⟩ := (hK.2 0 _ rfl).1 0 (fun _ => .null)
      obtain ⟨vm', X', st⟩ := X.cloneArray hx hown (hts _ w_cl1) (hts _ w_cl2) (hts _ w_cl3) (hts _ w_cl4) (hts _ w_cl5) (a := sz0 + i) (cell := vp_cell (cA 101) ((G.2.1 i).2, .inl (fun (j : Nat) => Int32.ofInt (I i (j : Int))))) hcellT (fun k h => by cases h) (fun h => by cases h) hnm f2 f3
        (fun i2 v hv => by
          have hk' : T.vm.classes[cA 101]? = some kA := hkA
          have hv2 : (arrV (cA 101) (G.2.1 i).2 (fun (j : Nat) => Value.int (Int32.ofInt (I i (j : Int))))).slots[i2]? = some v := hv
          have hlt2 : i2 < (G.2.1 i).2 := by
            have := (Array.getElem?_eq_some_iff.mp hv2).1
            rw [arrV_size] at this
            exact this
          rw [arrV_read _ _ hlt2] at hv2
          cases hv2
          have hft : fits .int (.int (Int32.ofInt (I i (i2 : Int)))) = true := rfl
          show State.fitsSlot _ (cA 101) _ _ _ = true
          simpa [State.fitsSlot, State.slotType?, hk', hkind] using hft)
        (g := F0 mi pc arr (.ref (sz0 + i) :: r.map (cv sz0 tk))) rfl hml.symm rfl (by rw [hb]; exact hd) (by omega) (by show 2 * 0 + _ + 14 ≤ _; rw [xwds_cat]; omega) (by omega) (by rw [hsz]; omega) (hloader := Vm.clonesLoader_of_array hkS hkindS)
      have hcellE : ({ cls := (vp_cell (cA 101) ((G.2.1 i).2, .inl (fun (j : Nat) => Int32.ofInt (I i (j : Int))))).cls, slots := (vp_cell (cA 101) ((G.2.1 i).2, .inl (fun (j : Nat) => Int32.ofInt (I i (j : Int))))).slots } : Cell) = vp_cell (cA 101) ((G.2.1 i).2, .inl (fun (j : Nat) => Int32.ofInt (I i (j : Int)))) := rfl
      rw [hcellE, hsz] at X'
      generalize hnc : vp_cell (cA 101) ((G.2.1 i).2, .inl (fun (j : Nat) => Int32.ofInt (I i (j : Int)))) = nc at X' st
      generalize hH1 : H.push nc = H1
      have z1 : H1.size = H.size + 1 := by rw [← hH1, Array.size_push]
      have e1 : H1[H.size]? = some nc := by rw [← hH1, Array.getElem?_push_size]
      have o1 : ∀ q : Nat, q < H.size → H1[q]? = H[q]? := fun q hq => by rw [← hH1, Array.getElem?_push, if_neg (Nat.ne_of_lt hq)]
      have hsz0 := hH.1
      obtain ⟨t, b1, b2⟩ := xgo C (st' := xr (some G.2.2.1) :: r) h hf (H' := H1) (xS_new C.2.2.2.2.2.1 z1 o1) (xHp_new hH z1 o1 (by
          have e2 : ((xnewG G (101, (G.2.1 i).2)).2.1 G.2.2.1) = (101, (G.2.1 i).2) := xsc_same G.2.1 _ _
          rw [xcell_a (tg := 101) (by rw [e2]) (by decide), e2, xac_i (by decide), xsc_same]
          show H1[sz0 + G.2.2.1]? = some (vp_cell _ _)
          rw [← hsz0, e1, hnc]) (by show (G.2.1 i).2 ≤ _; omega) (fun j hj => ⟨xsc_ne I _ hj, xsc_ne L _ hj⟩)) C.2.2.2.2.2.2.2.1 (by omega) (by omega) ((T.setVm vm').pushCell nc) (by rw [← hH1, ← hT]; rfl) X'
      refine ⟨t, st t ?_, b2⟩
      have hnc2 : ({ cls := nc.cls, slots := nc.slots } : Cell) = nc := by rw [← hnc]; rfl
      rw [hnc2, hT, hsz0]
      exact b1
  · exact h.elim
