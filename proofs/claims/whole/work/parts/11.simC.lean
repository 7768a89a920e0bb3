theorem xup_same {α : Type} (f : Int → α) (j : Int) (v : α) : xup f j v j = v := by simp [xup]
theorem xup_ne {α : Type} (f : Int → α) {i j : Int} (v : α) (h : i ≠ j) : xup f j v i = f i := by simp [xup, h]
theorem xq_put {l : Launch} {sz0 : Nat} {H00 : Heap} {scr : (Int → Int) × Nat} {dC : Nat → ClassId} {dI : Nat → Nat → Nat} {cA : Nat → ClassId} {tk : Nat → Nat} {xStr : State → Prop} {Y : XX} {d m : Nat} {es : List XE} {ls : List XV} {I : XI} {L : XL} {G : XG} {c s0 : Nat} {post : XQ} {p : Program} {e : Env} {R : Room} {s : State} {mi : MethodId} {args : Array Value} {below : List Frame} {meth : Method} {cd : Code} {H : Heap} {locs : List Loc} {cells slots mc ms : Nat} {arr : Array Slot} {Q : State → Prop} {pc idx i ci f : Nat} {I' : XI} {L' : XL} {G' : XG} {v : Value} {rest : List Value} (C : xCx l sz0 H00 scr dC dI cA tk xStr Y d m es ls I L G c s0 post p e R s mi args below meth cd H locs cells slots mc ms arr Q) (ht : (G.2.1 i).1 = ci + 1) (hci : ci < 13) (hfN : f < xNf ci) (hw : Cond.fieldLink (cn (mO m)) idx (xT ci f).1 (xT ci f).2.1 (xT ci f).2.2.1 ∈ lw_g) (hfin : (xT ci f).2.2.2 = false ∨ ((mY m).name = "<init>" ∧ (xT ci f).1 = cn (mO m))) (hn : narrow (xTy ci f) v = v) (hfit : fits (xTy ci f) v = true) (hG : G'.2 = G.2) (hv : xfv sz0 I' L' G'.1 i ci f = v) (ho : ∀ j, j ≠ f → xfv sz0 I' L' G'.1 i ci j = xfv sz0 I L G.1 i ci j) (hc : ∀ j, j ≠ i → I' j = I j ∧ L' j = L j ∧ G'.1 j = G.1 j) (hd : decode (mC m) pc = .ok (.putfield idx, 3))
    (kk : ∀ (H1 : Heap) (locs1 : List Loc), xHp sz0 H00 scr dC dI cA I' L' G' H1 → va_S (fun q => sz0 ≤ q) s.heap H1 locs1 → W p l e R s mi args below meth cd H1 locs1 cells slots Q (F0 mi (pc + 3) arr rest)) : W p l e R s mi args below meth cd H locs cells slots Q (F0 mi pc arr (v :: .ref (sz0 + i) :: rest)) := by
  have hx := C.2.1.1
  have hb := C.2.1.2.1
  have hts := C.2.1.2.2.2.2.1
  have hown := C.2.1.2.2.2.1
  have hK := C.2.2.1.1
  have hH := C.2.2.2.2.2.2.1
  have hS0 := C.2.2.2.2.2.1
  obtain ⟨hi, he⟩ := xHp_obj hH ht hci
  have hap := va_apart (own := cn (mO m)) hts (u_in hci) (xTy ci) (xTy_ok hci) (xnm_ok hci) hK (xcls_at hci)
  obtain ⟨r, h1, cell, q1, q2, q3, q4⟩ := hH.2.2.2.1 i _ he
  have hr : r = (cn ci, xT ci, xNf ci) := Option.some.inj (h1.symm.trans (xcls_at hci))
  subst hr
  obtain ⟨hSl, hfc, kC, hkC, hkind⟩ := hK.1 ci _ (xcls_at hci)
  obtain ⟨cf, kf, fi, fd, hif, hsl⟩ := hSl f hfN
  have hst := (u_facts hfc hkC (u_lays hts (u_in hci) hfN) hif).1
  have hlay := hts _ (u_in hci _ (u_in_lay hfN))
  have hlen : f < (xfs sz0 I L G.1 i ci).length := by rw [xfs_len]; exact hfN
  have K : ∀ H' : Heap, H'[sz0 + i]? = some (cell.setSlot (dI ci f) v) → H'.size = H.size → (∀ q, q ≠ sz0 + i → H'[q]? = H[q]?) → W p l e R s mi args below meth cd H' (locs ++ [⟨sz0 + i, dI ci f⟩]) cells slots Q (F0 mi (pc + 3) arr rest) := by
    intro H' e1 e2 e3
    refine kk H' _ (xHp_upd hH hG hi e2 e3 ?_ hc) (hS0.put e2 e3 (Nat.le_add_right _ _))
    have ec : xcell sz0 cA I' L' G' i = .inr (ci, (xfs sz0 I L G.1 i ci).set f v) := by
      rw [xfs_set hv ho]
      unfold xcell
      rw [hG, ht, if_neg (by omega)]
      rfl
    rw [ec]
    exact ⟨_, xcls_at hci, t_OB.to (V := updV (vp_V (xfs sz0 I L G.1 i ci)) f v) ⟨_, e1, q2, q3, t_set q4 hap hfN v⟩ (fun j _ => vp_updV_set hlen v j)⟩
  rcases hfin with hfin | ⟨hini, hdecl⟩
  · unfold u_lay at hlay
    rw [if_neg (by rw [hfin]; decide)] at hlay
    have h6 := u_store hfc hkC hkind hlay hif (xTy_ok hci f hfN) hn hfit
    refine W.putK hx hb (f := fd) ⟨hown, hts _ hw, ⟨_, _, _, hif⟩, hst⟩ (by rw [q2]; exact h6) q1 q3 (by rw [hsl]; exact k2_hasslot (q4 f hfN)) rfl rfl hd fun H' e1 e2 e3 => ?_
    rw [hsl] at e1 ⊢
    exact K H' e1 e2 e3
  · cases hfq : (xT ci f).2.2.2 with
    | false =>
      unfold u_lay at hlay
      rw [if_neg (by rw [hfq]; decide)] at hlay
      have h6 := u_store hfc hkC hkind hlay hif (xTy_ok hci f hfN) hn hfit
      refine W.putK hx hb (f := fd) ⟨hown, hts _ hw, ⟨_, _, _, hif⟩, hst⟩ (by rw [q2]; exact h6) q1 q3 (by rw [hsl]; exact k2_hasslot (q4 f hfN)) rfl rfl hd fun H' e1 e2 e3 => ?_
      rw [hsl] at e1 ⊢
      exact K H' e1 e2 e3
    | true =>
      unfold u_lay at hlay
      rw [if_pos hfq] at hlay
      have hcf : mi.cls = cf := by
        obtain ⟨_, _, c', _, _, _, -, -, hf', -, -, -, hown2, -⟩ := Cond.laysFinal_spec hlay
        have e1 : c' = cf := by have := hif.symm.trans hf'; simp at this; exact this.1.symm
        rw [hdecl] at hown2
        rw [← e1]; exact Option.some.inj (hown.symm.trans hown2)
      have h6 := u_fits hfc hkC hkind (Or.inr hlay) hif (xTy_ok hci f hfN) hn hfit
      refine W.putFinK hx hb hown (hts _ hw) hif hst hcf (C.2.1.2.2.2.2.2.2.2.1 hini) (by rw [q2]; exact h6) q1 q3 (by rw [hsl]; exact k2_hasslot (q4 f hfN)) rfl rfl hd fun H' e1 e2 e3 => ?_
      rw [hsl] at e1 ⊢
      exact K H' e1 e2 e3
theorem xs_putfield {l : Launch} {sz0 : Nat} {H00 : Heap} {scr : (Int → Int) × Nat} {dC : Nat → ClassId} {dI : Nat → Nat → Nat} {cA : Nat → ClassId} {tk : Nat → Nat} {xStr : State → Prop} {Y : XX} {d m : Nat} {es : List XE} {k : Nat} {ls st : List XV} {I : XI} {L : XL} {G : XG} {c s0 : Nat} {post : XQ} {p : Program} {e : Env} {R : Room} {s : State} {mi : MethodId} {args : Array Value} {below : List Frame} {meth : Method} {cd : Code} {H : Heap} {locs : List Loc} {cells slots mc ms : Nat} {arr : Array Slot} {Q : State → Prop} {pc : Nat} {ci j kd f pp : Nat} {idx : Nat} (C : xCx l sz0 H00 scr dC dI cA tk xStr Y d m es ls I L G c s0 post p e R s mi args below meth cd H locs cells slots mc ms arr Q) (hd : decode (mC m) pc = .ok (.putfield idx, 3)) (hf : pcO es (k + 1) = some (pc + 3)) (hk : fT[j]? = some (mO m, idx, ci, f, pp)) (hkd : kd = xKd ci f) (hfin : (xT ci f).2.2.2 = false ∨ ((mY m).name = "<init>" ∧ (xT ci f).1 = cn (mO m))) (h : xop Y d m es k (.putfield idx) [ci, j, kd] [(f : Int)] ls st I L G c s0 post) : W p l e R s mi args below meth cd H locs cells slots Q (F0 mi pc arr (st.map (cv sz0 tk))) := by
  have hx := C.2.1.1
  have hb := C.2.1.2.1
  simp only [xop] at h
  obtain ⟨hw, hfN, hci⟩ := fT_in hk
  have hfN : f < xNf ci := hfN
  have hci : ci < 13 := hci
  have hw : Cond.fieldLink (cn (mO m)) idx (xT ci f).1 (xT ci f).2.1 (xT ci f).2.2.1 ∈ lw_g := hw
  have hkt : kdOf (xTy ci f) = kd := by rw [hkd]; exact kd_at hci hfN
  split at h
  · rename_i heq1 heq2
    cases heq1
    cases heq2
    rename_i v i r
    cases hbq : Nat.beq (G.2.1 i).1 (ci + 1) with
    | false => rw [hbq] at h; exact h.elim
    | true =>
      have ht := Nat.eq_of_beq_eq_true hbq
      rw [hbq] at h
      simp only [cond] at h
      have hcl := C.2.2.2.2.2.2.2.1
      have hr := C.2.2.2.1.2.2.2.2
      have cI : ∀ a : Int, ∀ j, j ≠ i → xwr I i (f : Int) a j = I j ∧ L j = L j ∧ G.1 j = G.1 j := fun a j hj => ⟨xwr_ne I _ _ hj, rfl, rfl⟩
      have fvI : ∀ a : Int, xKd ci f ≤ 1 → xfv sz0 (xwr I i (f : Int) a) L G.1 i ci f = .int (Int32.ofInt a) := by
        intro a h1
        unfold xfv
        rw [xwr_same, xup_same]
        match hq : xKd ci f, h1 with
        | 0, _ => rfl
        | 1, _ => rfl
      have foI : ∀ a : Int, ∀ j, j ≠ f → xfv sz0 (xwr I i (f : Int) a) L G.1 i ci j = xfv sz0 I L G.1 i ci j := by
        intro a j hj
        unfold xfv
        rw [xwr_same, xup_ne _ _ (by omega)]
      split at h
      · rename_i a
        have hty : xTy ci f = .int := by
          unfold kdOf at hkt
          split at hkt <;> first | assumption | omega
        exact xq_put (I' := xwr I i (f : Int) a) (L' := L) (G' := G) C ht hci hfN hw hfin (v := .int (Int32.ofInt a)) (by rw [hty]; rfl) (by rw [hty]; rfl) rfl (fvI a (by omega)) (foI a) (cI a) hd (fun H1 locs1 hH1 hS1 => xgo C h hf hS1 hH1 hcl hr.1 hr.2)
      · rename_i a
        obtain ⟨ha, h⟩ := h
        have hty : xTy ci f = .boolean := by
          unfold kdOf at hkt
          split at hkt <;> first | assumption | omega
        exact xq_put (I' := xwr I i (f : Int) a) (L' := L) (G' := G) C ht hci hfN hw hfin (v := .int (Int32.ofInt a)) (by rw [hty]; rcases ha with rfl | rfl <;> rfl) (by rw [hty]; rcases ha with rfl | rfl <;> rfl) rfl (fvI a (by omega)) (foI a) (cI a) hd (fun H1 locs1 hH1 hS1 => xgo C h hf hS1 hH1 hcl hr.1 hr.2)
      · rename_i a
        have hty : xTy ci f = .long := by
          unfold kdOf at hkt
          split at hkt <;> first | assumption | omega
        exact xq_put (I' := I) (L' := xwr L i (f : Int) a) (G' := G) C ht hci hfN hw hfin (v := .long a) (by rw [hty]; rfl) (by rw [hty]; rfl) rfl (by unfold xfv; rw [← hkd, xwr_same, xup_same]; rfl) (fun j hj => by unfold xfv; rw [xwr_same, xup_ne _ _ (by omega)]) (fun j hj => ⟨rfl, xwr_ne L _ _ hj, rfl⟩) hd (fun H1 locs1 hH1 hS1 => xgo C h hf hS1 hH1 hcl hr.1 hr.2)
      · rename_i a
        have hn2 : narrow (xTy ci f) (cv sz0 tk (xr a)) = cv sz0 tk (xr a) ∧ fits (xTy ci f) (cv sz0 tk (xr a)) = true := by
          unfold kdOf at hkt
          split at hkt <;> first | omega | skip
          · rename_i hq; rw [hq]; cases a <;> exact ⟨rfl, rfl⟩
          · rename_i hq; rw [hq]; cases a <;> exact ⟨rfl, rfl⟩
        have go : ∀ v : Value, v = cv sz0 tk (xr a) → W p l e R s mi args below meth cd H locs cells slots Q (F0 mi pc arr (v :: Value.ref (sz0 + i) :: r.map (cv sz0 tk))) := by
          intro v hv
          exact xq_put (I' := I) (L' := L) (G' := (xwr G.1 i (f : Int) a, G.2)) C ht hci hfN hw hfin (v := v) (by rw [hv]; exact hn2.1) (by rw [hv]; exact hn2.2) rfl (by unfold xfv; rw [← hkd]; show va_rf ((xwr G.1 i (f : Int) a i (f : Int)).map _) = _; rw [xwr_same, xup_same, hv]; rfl) (fun j hj => by unfold xfv; show (match xKd ci j with | 2 => _ | 3 => va_rf ((xwr G.1 i (f : Int) a i (j : Int)).map _) | _ => _) = _; rw [xwr_same, xup_ne _ _ (by omega)]; rfl) (fun j hj => ⟨rfl, rfl, xwr_ne G.1 _ _ hj⟩) hd (fun H1 locs1 hH1 hS1 => xgo C h hf hS1 hH1 hcl hr.1 hr.2)
        exact go _ rfl
      · exact h.elim
  · exact h.elim
theorem xac_i {sz0 : Nat} {I : XI} {L : XL} {P : XP} {i tg n : Nat} (h : tg ≤ 103) : xac sz0 I L P i tg n = (n, .inl (fun j => Int32.ofInt (I i (j : Int)))) := by
  unfold xac
  rw [if_neg (by omega), if_neg (by omega)]
theorem xac_l {sz0 : Nat} {I : XI} {L : XL} {P : XP} {i n : Nat} : xac sz0 I L P i 104 n = (n, .inr (.inl (fun j => L i (j : Int)))) := by
  unfold xac
  rw [if_pos rfl]
theorem xac_q {sz0 : Nat} {I : XI} {L : XL} {P : XP} {i tg n : Nat} (h : 105 ≤ tg) : xac sz0 I L P i tg n = (n, .inr (.inr (.inr (.inr (fun j => (P i (j : Int)).map (fun i => sz0 + i)))))) := by
  unfold xac
  rw [if_neg (by omega), if_pos h]
theorem xcell_a {sz0 : Nat} {cA : Nat → ClassId} {I : XI} {L : XL} {G : XG} {i tg : Nat} (h : (G.2.1 i).1 = tg) (h1 : 101 ≤ tg) : xcell sz0 cA I L G i = .inl (cA tg, xac sz0 I L G.1 i tg (G.2.1 i).2) := by
  unfold xcell
  rw [h, if_pos h1]
theorem xtoNat {a : Int} (h : 0 ≤ a) : ((a.toNat : Nat) : Int) = a := Int.toNat_of_nonneg h
theorem xs_iaload {l : Launch} {sz0 : Nat} {H00 : Heap} {scr : (Int → Int) × Nat} {dC : Nat → ClassId} {dI : Nat → Nat → Nat} {cA : Nat → ClassId} {tk : Nat → Nat} {xStr : State → Prop} {Y : XX} {d m : Nat} {es : List XE} {k : Nat} {ls st : List XV} {I : XI} {L : XL} {G : XG} {c s0 : Nat} {post : XQ} {p : Program} {e : Env} {R : Room} {s : State} {mi : MethodId} {args : Array Value} {below : List Frame} {meth : Method} {cd : Code} {H : Heap} {locs : List Loc} {cells slots mc ms : Nat} {arr : Array Slot} {Q : State → Prop} {pc : Nat} {ns : List Nat} {vs : List Int}  (C : xCx l sz0 H00 scr dC dI cA tk xStr Y d m es ls I L G c s0 post p e R s mi args below meth cd H locs cells slots mc ms arr Q) (hd : decode (mC m) pc = .ok (.iaload, 1)) (hf : pcO es (k + 1) = some (pc + 1))  (h : xop Y d m es k (.iaload) ns vs ls st I L G c s0 post) : W p l e R s mi args below meth cd H locs cells slots Q (F0 mi pc arr (st.map (cv sz0 tk))) := by
  have hx := C.2.1.1
  have hb := C.2.1.2.1
  simp only [xop] at h
  have hH := C.2.2.2.2.2.2.1
  have hK := C.2.2.1.1
  split at h
  · rename_i a i r
    cases hbq : Nat.beq (G.2.1 i).1 101 with
    | false => rw [hbq] at h; exact h.elim
    | true =>
      rw [hbq] at h
      simp only [cond] at h
      have ht : (G.2.1 i).1 = 101 := Nat.eq_of_beq_eq_true hbq
      obtain ⟨⟨h0, h1⟩, h⟩ := h
      obtain ⟨hi, he⟩ := xHp_arr hH ht (by decide)
      have hn := hH.2.2.1 i
      rw [xac_i (by decide)] at he
      refine va_iald hx hb hK hH.2.2.2.1 i 0 he rfl (xo_in h0 h1 (by omega)) hd ?_
      rw [xo_clamp h0 (by omega), xtoNat h0]
      exact xgo0 C (st' := xi (I i a) :: r) h hf
  · rename_i a r
    obtain ⟨⟨h0, h1⟩, h⟩ := h
    have hsc := hH.2.2.2.2.2
    have hX := C.2.2.1.2.2.2.2.2.1
    have hlt := C.2.2.1.2.2.2.2.2.2.1
    have hL := C.2.2.1.2.2.2.2.2.2.2.1
    rw [hsc] at h1 h
    obtain ⟨scrc, g1, g2, g3, g4, g5⟩ := hX
    have hc : H[tk 2]? = some scrc := by rw [hH.2.2.2.2.1 _ hlt]; exact g1
    have hin := xo_in h0 h1 (by omega)
    refine W.iald (v := .int (Int32.ofInt (scr.1 a))) hx hb hc g2 g3 (by rw [g4]; exact hin) ?_ rfl rfl hd ?_
    · rw [xo_clamp h0 (by omega), g5 _ (by omega)]
      show some (Value.int (Int32.ofInt (scr.1 ((a.toNat : Nat) : Int)))) = _
      rw [xtoNat h0]
    · exact xgo0 C (st' := xi (scr.1 a) :: r) h hf
  · exact h.elim
theorem xs_baload {l : Launch} {sz0 : Nat} {H00 : Heap} {scr : (Int → Int) × Nat} {dC : Nat → ClassId} {dI : Nat → Nat → Nat} {cA : Nat → ClassId} {tk : Nat → Nat} {xStr : State → Prop} {Y : XX} {d m : Nat} {es : List XE} {k : Nat} {ls st : List XV} {I : XI} {L : XL} {G : XG} {c s0 : Nat} {post : XQ} {p : Program} {e : Env} {R : Room} {s : State} {mi : MethodId} {args : Array Value} {below : List Frame} {meth : Method} {cd : Code} {H : Heap} {locs : List Loc} {cells slots mc ms : Nat} {arr : Array Slot} {Q : State → Prop} {pc : Nat} {ns : List Nat} {vs : List Int}  (C : xCx l sz0 H00 scr dC dI cA tk xStr Y d m es ls I L G c s0 post p e R s mi args below meth cd H locs cells slots mc ms arr Q) (hd : decode (mC m) pc = .ok (.baload, 1)) (hf : pcO es (k + 1) = some (pc + 1))  (h : xop Y d m es k (.baload) ns vs ls st I L G c s0 post) : W p l e R s mi args below meth cd H locs cells slots Q (F0 mi pc arr (st.map (cv sz0 tk))) := by
  have hx := C.2.1.1
  have hb := C.2.1.2.1
  simp only [xop] at h
  have hH := C.2.2.2.2.2.2.1
  have hK := C.2.2.1.1
  split at h
  · rename_i a i r
    cases hb2 : Nat.beq (G.2.1 i).1 102 with
    | true =>
      have hbq := hb2
      rw [hb2] at h
      simp only [Bool.true_or, cond] at h
      have ht : (G.2.1 i).1 = 102 := Nat.eq_of_beq_eq_true hbq
      obtain ⟨⟨h0, h1⟩, h⟩ := h
      obtain ⟨hi, he⟩ := xHp_arr hH ht (by decide)
      have hn := hH.2.2.1 i
      rw [xac_i (by decide)] at he
      refine va_bald hx hb hK hH.2.2.2.1 i 1 he rfl (xo_in h0 h1 (by omega)) hd ?_
      rw [xo_clamp h0 (by omega), xtoNat h0]
      exact xgo0 C (st' := xi (I i a) :: r) h hf
    | false =>
      cases hbq : Nat.beq (G.2.1 i).1 103 with
      | false => rw [hb2, hbq] at h; exact h.elim
      | true =>
        rw [hb2, hbq] at h
        simp only [Bool.false_or, cond] at h
        have ht : (G.2.1 i).1 = 103 := Nat.eq_of_beq_eq_true hbq
        obtain ⟨⟨h0, h1⟩, h⟩ := h
        obtain ⟨hi, he⟩ := xHp_arr hH ht (by decide)
        have hn := hH.2.2.1 i
        rw [xac_i (by decide)] at he
        refine va_zald hx hb hK hH.2.2.2.1 i 2 he rfl (xo_in h0 h1 (by omega)) hd ?_
        rw [xo_clamp h0 (by omega), xtoNat h0]
        exact xgo0 C (st' := xi (I i a) :: r) h hf
  · exact h.elim
theorem xs_laload {l : Launch} {sz0 : Nat} {H00 : Heap} {scr : (Int → Int) × Nat} {dC : Nat → ClassId} {dI : Nat → Nat → Nat} {cA : Nat → ClassId} {tk : Nat → Nat} {xStr : State → Prop} {Y : XX} {d m : Nat} {es : List XE} {k : Nat} {ls st : List XV} {I : XI} {L : XL} {G : XG} {c s0 : Nat} {post : XQ} {p : Program} {e : Env} {R : Room} {s : State} {mi : MethodId} {args : Array Value} {below : List Frame} {meth : Method} {cd : Code} {H : Heap} {locs : List Loc} {cells slots mc ms : Nat} {arr : Array Slot} {Q : State → Prop} {pc : Nat} {ns : List Nat} {vs : List Int}  (C : xCx l sz0 H00 scr dC dI cA tk xStr Y d m es ls I L G c s0 post p e R s mi args below meth cd H locs cells slots mc ms arr Q) (hd : decode (mC m) pc = .ok (.laload, 1)) (hf : pcO es (k + 1) = some (pc + 1))  (h : xop Y d m es k (.laload) ns vs ls st I L G c s0 post) : W p l e R s mi args below meth cd H locs cells slots Q (F0 mi pc arr (st.map (cv sz0 tk))) := by
  have hx := C.2.1.1
  have hb := C.2.1.2.1
  simp only [xop] at h
  have hH := C.2.2.2.2.2.2.1
  have hK := C.2.2.1.1
  split at h
  · rename_i a i r
    cases hbq : Nat.beq (G.2.1 i).1 104 with
    | false => rw [hbq] at h; exact h.elim
    | true =>
      rw [hbq] at h
      simp only [cond] at h
      have ht : (G.2.1 i).1 = 104 := Nat.eq_of_beq_eq_true hbq
      obtain ⟨⟨h0, h1⟩, h⟩ := h
      obtain ⟨hi, he⟩ := xHp_arr hH ht (by decide)
      have hn := hH.2.2.1 i
      rw [xac_l] at he
      refine va_lald hx hb hK hH.2.2.2.1 i 3 he rfl (xo_in h0 h1 (by omega)) hd ?_
      rw [xo_clamp h0 (by omega), xtoNat h0]
      exact xgo0 C (st' := xl (L i a) :: r) h hf
  · exact h.elim
theorem xs_aaload {l : Launch} {sz0 : Nat} {H00 : Heap} {scr : (Int → Int) × Nat} {dC : Nat → ClassId} {dI : Nat → Nat → Nat} {cA : Nat → ClassId} {tk : Nat → Nat} {xStr : State → Prop} {Y : XX} {d m : Nat} {es : List XE} {k : Nat} {ls st : List XV} {I : XI} {L : XL} {G : XG} {c s0 : Nat} {post : XQ} {p : Program} {e : Env} {R : Room} {s : State} {mi : MethodId} {args : Array Value} {below : List Frame} {meth : Method} {cd : Code} {H : Heap} {locs : List Loc} {cells slots mc ms : Nat} {arr : Array Slot} {Q : State → Prop} {pc : Nat} {ns : List Nat} {vs : List Int}  (C : xCx l sz0 H00 scr dC dI cA tk xStr Y d m es ls I L G c s0 post p e R s mi args below meth cd H locs cells slots mc ms arr Q) (hd : decode (mC m) pc = .ok (.aaload, 1)) (hf : pcO es (k + 1) = some (pc + 1))  (h : xop Y d m es k (.aaload) ns vs ls st I L G c s0 post) : W p l e R s mi args below meth cd H locs cells slots Q (F0 mi pc arr (st.map (cv sz0 tk))) := by
  have hx := C.2.1.1
  have hb := C.2.1.2.1
  simp only [xop] at h
  have hH := C.2.2.2.2.2.2.1
  have hK := C.2.2.1.1
  split at h
  · rename_i a i r
    cases hb2 : Nat.beq (G.2.1 i).1 105 with
    | true =>
      have hbq := hb2
      rw [hb2] at h
      simp only [Bool.true_or, cond] at h
      have ht : (G.2.1 i).1 = 105 := Nat.eq_of_beq_eq_true hbq
      obtain ⟨⟨h0, h1⟩, h⟩ := h
      obtain ⟨hi, he⟩ := xHp_arr hH ht (by decide)
      have hn := hH.2.2.1 i
      rw [xac_q (by decide)] at he
      refine va_aldq hx hb hK hH.2.2.2.1 i 4 he rfl (xo_in h0 h1 (by omega)) hd ?_
      rw [xo_clamp h0 (by omega), xtoNat h0]
      exact xgo0 C (st' := xr (G.1 i a) :: r) h hf
    | false =>
      cases hbq : Nat.beq (G.2.1 i).1 106 with
      | false => rw [hb2, hbq] at h; exact h.elim
      | true =>
        rw [hb2, hbq] at h
        simp only [Bool.false_or, cond] at h
        have ht : (G.2.1 i).1 = 106 := Nat.eq_of_beq_eq_true hbq
        obtain ⟨⟨h0, h1⟩, h⟩ := h
        obtain ⟨hi, he⟩ := xHp_arr hH ht (by decide)
        have hn := hH.2.2.1 i
        rw [xac_q (by decide)] at he
        refine va_aldq hx hb hK hH.2.2.2.1 i 5 he rfl (xo_in h0 h1 (by omega)) hd ?_
        rw [xo_clamp h0 (by omega), xtoNat h0]
        exact xgo0 C (st' := xr (G.1 i a) :: r) h hf
  · exact h.elim
theorem xs_arraylength {l : Launch} {sz0 : Nat} {H00 : Heap} {scr : (Int → Int) × Nat} {dC : Nat → ClassId} {dI : Nat → Nat → Nat} {cA : Nat → ClassId} {tk : Nat → Nat} {xStr : State → Prop} {Y : XX} {d m : Nat} {es : List XE} {k : Nat} {ls st : List XV} {I : XI} {L : XL} {G : XG} {c s0 : Nat} {post : XQ} {p : Program} {e : Env} {R : Room} {s : State} {mi : MethodId} {args : Array Value} {below : List Frame} {meth : Method} {cd : Code} {H : Heap} {locs : List Loc} {cells slots mc ms : Nat} {arr : Array Slot} {Q : State → Prop} {pc : Nat} {ns : List Nat} {vs : List Int}  (C : xCx l sz0 H00 scr dC dI cA tk xStr Y d m es ls I L G c s0 post p e R s mi args below meth cd H locs cells slots mc ms arr Q) (hd : decode (mC m) pc = .ok (.arraylength, 1)) (hf : pcO es (k + 1) = some (pc + 1))  (h : xop Y d m es k (.arraylength) ns vs ls st I L G c s0 post) : W p l e R s mi args below meth cd H locs cells slots Q (F0 mi pc arr (st.map (cv sz0 tk))) := by
  have hx := C.2.1.1
  have hb := C.2.1.2.1
  simp only [xop] at h
  have hH := C.2.2.2.2.2.2.1
  have hK := C.2.2.1.1
  split at h
  · rename_i i r
    cases hbq : (Nat.ble 101 (G.2.1 i).1 && Nat.ble (G.2.1 i).1 106) with
    | false => rw [hbq] at h; exact h.elim
    | true =>
      rw [hbq] at h
      simp only [cond] at h
      simp only [Bool.and_eq_true, Nat.ble_eq] at hbq
      obtain ⟨hi, he⟩ := xHp_arr hH (rfl : (G.2.1 i).1 = _) hbq.1
      have hty : ∃ (t0 : Nat) (ty : FieldType), (xtys cA)[t0]? = some (cA (G.2.1 i).1, ty) := by
        have : (G.2.1 i).1 = 101 ∨ (G.2.1 i).1 = 102 ∨ (G.2.1 i).1 = 103 ∨ (G.2.1 i).1 = 104 ∨ (G.2.1 i).1 = 105 ∨ (G.2.1 i).1 = 106 := by omega
        rcases this with h | h | h | h | h | h <;> rw [h]
        · exact ⟨0, _, rfl⟩
        · exact ⟨1, _, rfl⟩
        · exact ⟨2, _, rfl⟩
        · exact ⟨3, _, rfl⟩
        · exact ⟨4, _, rfl⟩
        · exact ⟨5, _, rfl⟩
      obtain ⟨t0, ty, hty⟩ := hty
      exact va_alen hx hb hK hH.2.2.2.1 i t0 he hty (v := Int32.ofInt ((G.2.1 i).2 : Int)) (xo_ofNat _).symm hd (xgo0 C (st' := xi ((G.2.1 i).2 : Int) :: r) h hf)
  · rename_i r
    have hsc := hH.2.2.2.2.2
    have hX := C.2.2.1.2.2.2.2.2.1
    have hlt := C.2.2.1.2.2.2.2.2.2.1
    rw [hsc] at h
    obtain ⟨scrc, g1, g2, g3, g4, g5⟩ := hX
    have hc : H[tk 2]? = some scrc := by rw [hH.2.2.2.2.1 _ hlt]; exact g1
    exact W.alen (n := Int32.ofInt (scr.2 : Int)) hx hb hc g2 (by rw [g4, xo_ofNat]) rfl rfl hd (xgo0 C (st' := xi (scr.2 : Int) :: r) h hf)
  · exact h.elim
theorem xst_i {I : XI} {i : Nat} {a v : Int} (h0 : 0 ≤ a) : updV (fun j => Value.int (Int32.ofInt (I i (j : Int)))) a.toNat (.int (Int32.ofInt v)) = fun (j : Nat) => Value.int (Int32.ofInt (xwr I i a v i (j : Int))) := by
  funext j
  unfold updV
  rw [xwr_same]
  by_cases hj : j = a.toNat
  · rw [if_pos hj, hj, xtoNat h0, xup_same]
  · rw [if_neg hj, xup_ne _ _ (by omega)]
theorem xst_l {L : XL} {i : Nat} {a : Int} {v : Int64} (h0 : 0 ≤ a) : updV (fun j => Value.long (L i (j : Int))) a.toNat (.long v) = fun (j : Nat) => Value.long (xwr L i a v i (j : Int)) := by
  funext j
  unfold updV
  rw [xwr_same]
  by_cases hj : j = a.toNat
  · rw [if_pos hj, hj, xtoNat h0, xup_same]
  · rw [if_neg hj, xup_ne _ _ (by omega)]
theorem xst_q {sz0 : Nat} {P : XP} {i v : Nat} {a : Int} (h0 : 0 ≤ a) : updV (fun j => va_rf ((P i (j : Int)).map (fun i => sz0 + i))) a.toNat (.ref (sz0 + v)) = fun (j : Nat) => va_rf ((xwr P i a (some v) i (j : Int)).map (fun i => sz0 + i)) := by
  funext j
  unfold updV
  rw [xwr_same]
  by_cases hj : j = a.toNat
  · rw [if_pos hj, hj, xtoNat h0, xup_same]; rfl
  · rw [if_neg hj, xup_ne _ _ (by omega)]
theorem xnar_b {v : Int} (h : -128 ≤ v ∧ v ≤ 127) : narrow .byte (.int (Int32.ofInt v)) = .int (Int32.ofInt v) := by
  show Value.int (Int32.ofInt v).toInt8.toInt32 = _
  rw [Int32.toInt8_ofInt]
  congr 1
  exact Int8.toInt32_ofInt (by exact h.1) (by exact h.2)
theorem xnar_z {v : Int} (h : v = 0 ∨ v = 1) : narrow .boolean (.int (Int32.ofInt v)) = .int (Int32.ofInt v) := by
  rcases h with rfl | rfl <;> rfl
theorem xs_iastore {l : Launch} {sz0 : Nat} {H00 : Heap} {scr : (Int → Int) × Nat} {dC : Nat → ClassId} {dI : Nat → Nat → Nat} {cA : Nat → ClassId} {tk : Nat → Nat} {xStr : State → Prop} {Y : XX} {d m : Nat} {es : List XE} {k : Nat} {ls st : List XV} {I : XI} {L : XL} {G : XG} {c s0 : Nat} {post : XQ} {p : Program} {e : Env} {R : Room} {s : State} {mi : MethodId} {args : Array Value} {below : List Frame} {meth : Method} {cd : Code} {H : Heap} {locs : List Loc} {cells slots mc ms : Nat} {arr : Array Slot} {Q : State → Prop} {pc : Nat} {ns : List Nat} {vs : List Int}  (C : xCx l sz0 H00 scr dC dI cA tk xStr Y d m es ls I L G c s0 post p e R s mi args below meth cd H locs cells slots mc ms arr Q) (hd : decode (mC m) pc = .ok (.iastore, 1)) (hf : pcO es (k + 1) = some (pc + 1))  (h : xop Y d m es k (.iastore) ns vs ls st I L G c s0 post) : W p l e R s mi args below meth cd H locs cells slots Q (F0 mi pc arr (st.map (cv sz0 tk))) := by
  have hx := C.2.1.1
  have hb := C.2.1.2.1
  simp only [xop] at h
  have hH := C.2.2.2.2.2.2.1
  have hK := C.2.2.1.1
  split at h
  · rename_i v a i r
    cases hbq : Nat.beq (G.2.1 i).1 101 with
    | false => rw [hbq] at h; exact h.elim
    | true =>
      rw [hbq] at h
      simp only [cond] at h
      obtain ⟨⟨h0, h1⟩, h⟩ := h
      have ht : (G.2.1 i).1 = 101 := Nat.eq_of_beq_eq_true hbq
      obtain ⟨hi, he⟩ := xHp_arr hH ht (by decide)
      have hn := hH.2.2.1 i
      rw [xac_i (by decide)] at he
      have hin := xo_in h0 h1 (by omega)
      refine W.iast hx hb (hH.2.2.2.1 i _ he) ((hK.2 0 _ rfl).1 (G.2.1 i).2 (fun j => .int (Int32.ofInt (I i (j : Int))))) (fun q => by cases q) (by show ¬ (_ ∨ (arrV _ _ _).slots.size ≤ _); rw [arrV_size]; exact hin) rfl rfl hd fun H1 e z oq => ?_
      refine xgo C h hf ((C.2.2.2.2.2.1).put z oq (Nat.le_add_right _ _)) (xHp_upd hH rfl hi z oq ?_ (fun j hj => ⟨xwr_ne I _ _ hj, rfl, rfl⟩)) C.2.2.2.2.2.2.2.1 C.2.2.2.1.2.2.2.2.1 C.2.2.2.1.2.2.2.2.2
      rw [xcell_a ht (by decide), xac_i (by decide)]
      show H1[sz0 + i]? = some (vp_cell _ _)
      rw [e, vp_cell_i, vp_cell_i, arrV_store, xo_clamp h0 (by omega), xst_i h0]
  · exact h.elim
theorem xs_lastore {l : Launch} {sz0 : Nat} {H00 : Heap} {scr : (Int → Int) × Nat} {dC : Nat → ClassId} {dI : Nat → Nat → Nat} {cA : Nat → ClassId} {tk : Nat → Nat} {xStr : State → Prop} {Y : XX} {d m : Nat} {es : List XE} {k : Nat} {ls st : List XV} {I : XI} {L : XL} {G : XG} {c s0 : Nat} {post : XQ} {p : Program} {e : Env} {R : Room} {s : State} {mi : MethodId} {args : Array Value} {below : List Frame} {meth : Method} {cd : Code} {H : Heap} {locs : List Loc} {cells slots mc ms : Nat} {arr : Array Slot} {Q : State → Prop} {pc : Nat} {ns : List Nat} {vs : List Int}  (C : xCx l sz0 H00 scr dC dI cA tk xStr Y d m es ls I L G c s0 post p e R s mi args below meth cd H locs cells slots mc ms arr Q) (hd : decode (mC m) pc = .ok (.lastore, 1)) (hf : pcO es (k + 1) = some (pc + 1))  (h : xop Y d m es k (.lastore) ns vs ls st I L G c s0 post) : W p l e R s mi args below meth cd H locs cells slots Q (F0 mi pc arr (st.map (cv sz0 tk))) := by
  have hx := C.2.1.1
  have hb := C.2.1.2.1
  simp only [xop] at h
  have hH := C.2.2.2.2.2.2.1
  have hK := C.2.2.1.1
  split at h
  · rename_i v a i r
    cases hbq : Nat.beq (G.2.1 i).1 104 with
    | false => rw [hbq] at h; exact h.elim
    | true =>
      rw [hbq] at h
      simp only [cond] at h
      obtain ⟨⟨h0, h1⟩, h⟩ := h
      have ht : (G.2.1 i).1 = 104 := Nat.eq_of_beq_eq_true hbq
      obtain ⟨hi, he⟩ := xHp_arr hH ht (by decide)
      have hn := hH.2.2.1 i
      rw [xac_l] at he
      have hin := xo_in h0 h1 (by omega)
      refine W.last hx hb (hH.2.2.2.1 i _ he) ((hK.2 3 _ rfl).1 (G.2.1 i).2 (fun j => .long (L i (j : Int)))) (fun q => by cases q) (by show ¬ (_ ∨ (arrV _ _ _).slots.size ≤ _); rw [arrV_size]; exact hin) rfl rfl hd fun H1 e z oq => ?_
      refine xgo C h hf ((C.2.2.2.2.2.1).put z oq (Nat.le_add_right _ _)) (xHp_upd hH rfl hi z oq ?_ (fun j hj => ⟨rfl, xwr_ne L _ _ hj, rfl⟩)) C.2.2.2.2.2.2.2.1 C.2.2.2.1.2.2.2.2.1 C.2.2.2.1.2.2.2.2.2
      rw [xcell_a ht (by decide), xac_l]
      show H1[sz0 + i]? = some (vp_cell _ _)
      rw [e, vp_cell_l, vp_cell_l, arrV_store, xo_clamp h0 (by omega), xst_l h0]
  · exact h.elim
theorem xs_bastore {l : Launch} {sz0 : Nat} {H00 : Heap} {scr : (Int → Int) × Nat} {dC : Nat → ClassId} {dI : Nat → Nat → Nat} {cA : Nat → ClassId} {tk : Nat → Nat} {xStr : State → Prop} {Y : XX} {d m : Nat} {es : List XE} {k : Nat} {ls st : List XV} {I : XI} {L : XL} {G : XG} {c s0 : Nat} {post : XQ} {p : Program} {e : Env} {R : Room} {s : State} {mi : MethodId} {args : Array Value} {below : List Frame} {meth : Method} {cd : Code} {H : Heap} {locs : List Loc} {cells slots mc ms : Nat} {arr : Array Slot} {Q : State → Prop} {pc : Nat} {ns : List Nat} {vs : List Int}  (C : xCx l sz0 H00 scr dC dI cA tk xStr Y d m es ls I L G c s0 post p e R s mi args below meth cd H locs cells slots mc ms arr Q) (hd : decode (mC m) pc = .ok (.bastore, 1)) (hf : pcO es (k + 1) = some (pc + 1))  (h : xop Y d m es k (.bastore) ns vs ls st I L G c s0 post) : W p l e R s mi args below meth cd H locs cells slots Q (F0 mi pc arr (st.map (cv sz0 tk))) := by
  have hx := C.2.1.1
  have hb := C.2.1.2.1
  simp only [xop] at h
  have hH := C.2.2.2.2.2.2.1
  have hK := C.2.2.1.1
  split at h
  · rename_i v a i r
    cases hbq : Nat.beq (G.2.1 i).1 102 with
    | true =>
      rw [hbq] at h
      simp only [cond] at h
      obtain ⟨⟨h0, h1, hv1, hv2⟩, h⟩ := h
      have ht : (G.2.1 i).1 = 102 := Nat.eq_of_beq_eq_true hbq
      obtain ⟨hi, he⟩ := xHp_arr hH ht (by decide)
      have hn := hH.2.2.1 i
      rw [xac_i (by decide)] at he
      have hin := xo_in h0 h1 (by omega)
      refine W.bast hx hb (hH.2.2.2.1 i _ he) ((hK.2 1 _ rfl).1 (G.2.1 i).2 (fun j => .int (Int32.ofInt (I i (j : Int))))) (fun q => by cases q) (by show ¬ (_ ∨ (arrV _ _ _).slots.size ≤ _); rw [arrV_size]; exact hin) rfl rfl hd fun H1 e z oq => ?_
      refine xgo C h hf ((C.2.2.2.2.2.1).put z oq (Nat.le_add_right _ _)) (xHp_upd hH rfl hi z oq ?_ (fun j hj => ⟨xwr_ne I _ _ hj, rfl, rfl⟩)) C.2.2.2.2.2.2.2.1 C.2.2.2.1.2.2.2.2.1 C.2.2.2.1.2.2.2.2.2
      rw [xcell_a ht (by decide), xac_i (by decide)]
      show H1[sz0 + i]? = some (vp_cell _ _)
      rw [e, xnar_b ⟨hv1, hv2⟩, vp_cell_i, vp_cell_i, arrV_store, xo_clamp h0 (by omega), xst_i h0]
    | false =>
      rw [hbq] at h
      cases hbq : Nat.beq (G.2.1 i).1 103 with
      | false => rw [hbq] at h; exact h.elim
      | true =>
        rw [hbq] at h
        simp only [cond] at h
        obtain ⟨⟨h0, h1, hv1⟩, h⟩ := h
        have ht : (G.2.1 i).1 = 103 := Nat.eq_of_beq_eq_true hbq
        obtain ⟨hi, he⟩ := xHp_arr hH ht (by decide)
        have hn := hH.2.2.1 i
        rw [xac_i (by decide)] at he
        have hin := xo_in h0 h1 (by omega)
        refine W.zast hx hb (hH.2.2.2.1 i _ he) ((hK.2 2 _ rfl).1 (G.2.1 i).2 (fun j => .int (Int32.ofInt (I i (j : Int))))) (fun q => by cases q) (by show ¬ (_ ∨ (arrV _ _ _).slots.size ≤ _); rw [arrV_size]; exact hin) rfl rfl hd fun H1 e z oq => ?_
        refine xgo C h hf ((C.2.2.2.2.2.1).put z oq (Nat.le_add_right _ _)) (xHp_upd hH rfl hi z oq ?_ (fun j hj => ⟨xwr_ne I _ _ hj, rfl, rfl⟩)) C.2.2.2.2.2.2.2.1 C.2.2.2.1.2.2.2.2.1 C.2.2.2.1.2.2.2.2.2
        rw [xcell_a ht (by decide), xac_i (by decide)]
        show H1[sz0 + i]? = some (vp_cell _ _)
        rw [e, xnar_z hv1, vp_cell_i, vp_cell_i, arrV_store, xo_clamp h0 (by omega), xst_i h0]
  · exact h.elim
