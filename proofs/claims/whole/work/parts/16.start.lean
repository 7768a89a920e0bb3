/-! THE CLAIM OUT OF ONE WALK OF THE LAW'S BODY. Your part is whole_start (and what it stands on); all else here is the same for every law, but numbers. -/
def R_law : String := "RueCakeLaw"
def lw_P (b : Addr) (xs : List Int32) (args : Array Value) (s : State) : Prop := args = #[.ref b] ∧ s.IntsAt b xs ∧ xs.length ≤ 3072 ∧ (Jvm.Cond.and given_1 narrow_1).before args s = true
def lw_Q (_ : Array Value) (s : State) (o : Outcome) (t : State) : Prop := o = .returned (some (.int 1)) ∧ Framed s o t [] 600000 7302250
def lw_Z (below : List Frame) (a : Array Value) (s : State) : State → Prop := fun t => ∃ o, t.status = .running ∧ Ended t below o ∧ lw_Q a s o t
/-- the law's own end, with 1 on the stack, nothing written that was there before, its room as the claim has it -/
theorem lw_ret {p : Program} {l : Launch} {e : Env} {s : State} {m : MethodId} {below : List Frame} {meth : Method} {c : Code} {b : Nat} (hx : p.tables.exec = Jvm.exec) (hb : c.code = code) (hr : meth.sig.returnType = ret) (hlocks : meth.locks = false) {pc : Nat} {H : Heap} {ls : Array Slot} (hdg : decode code pc = .ok (.ireturn, 1)) : W p l e room_1 s m #[Value.ref b] below meth c H [] 600000 7302250 (lw_Z below #[Value.ref b] s) (F0 m pc ls [.int 1]) := by
  intro T hT X
  obtain ⟨fs, hret, hrun, hended, hW, hframe⟩ := X.leave (v := some (.int 1)) (hlocks := hlocks) (fun h => by rw [hr] at h; cases h)
  have hmeth' : T.vm.method? m = some meth := X.method'
  refine ⟨T.setFrames fs, ?_, .returned (some (.int 1)), hrun, hended, rfl, ⟨_, rfl⟩, hW, hframe⟩
  jvm_step X.here [X.here.top, hx, hb, hdg, hmeth', hr, ret, narrow_b1]
  (try refine ⟨rfl, ?_⟩); (try refine ⟨rfl, ?_⟩)
  first | (intro acts; rw [hret _ acts rfl rfl rfl]) | rw [hret _ _ rfl rfl rfl]
  exact Steps.refl _
/-- what holds at the law's entry: the machine, the code, the tables' words (any of lw_tbl by 'hts w (by decide +kernel)'), the script of L ints xs at the cell b, what the Statement gives of the start (any of its parts by flat_of_before) -/
def lw_At (p : Program) (s : State) (m : MethodId) (meth : Method) (c : Code) (b L : Nat) (xs : Nat → Int32) : Prop :=
  p.tables.exec = Jvm.exec ∧ c.code = code ∧ meth.sig.returnType = ret ∧ c.maxLocals = 4 ∧ s.vm.findClass R_law = some m.cls ∧ (∀ w ∈ lw_tbl, w.before #[Value.ref b] s = true) ∧ va_X b L xs s s.heap ∧ b < s.heap.size ∧ meth.locks = false ∧ (Jvm.Cond.and given_1 narrow_1).before #[Value.ref b] s = true
/-! the law's start -/
theorem w_castable : Cond.castable "[I" "java/lang/Cloneable" ∈ lw_tbl := List.mem_of_getElem? (i := 779) (by decide +kernel)
theorem w_aoR : Cond.arrayOver (.object "RueCake$Rule") ∈ lw_tbl := List.mem_of_getElem? (i := 338) (by decide +kernel)
theorem w_aoS : Cond.arrayOver (.object "RueCake$State") ∈ lw_tbl := List.mem_of_getElem? (i := 405) (by decide +kernel)
theorem xs_arr {s : State} {args : Array Value} {ty : FieldType} (h : (Cond.arrayClass ty).before args s = true) (hp : ∀ C, ty ≠ .object C) : ∃ c : ClassId, ArrOfT s c ty ∧ va_RA s c ty := by
  obtain ⟨c, k, comp, h1, h2, h3⟩ := Cond.arrayClass_spec h
  refine ⟨c, fun n z => ⟨fun k h => (by cases h), k, h2, comp, h3⟩, ?_⟩
  cases ty with
  | object C => exact absurd rfl (hp C)
  | _ => exact h1
theorem xs_obj {s : State} {args : Array Value} {C : String} (h : (Cond.arrayOver (.object C)).before args s = true) : ∃ c : ClassId, ArrOfT s c (.object C) ∧ va_RA s c (.object C) := by
  obtain ⟨comp, c, k, h1, -, h2, h3, h4⟩ := Cond.arrayOver_spec h
  exact ⟨c, fun n z => ⟨fun k h => (by cases h), k, h2, comp, h3⟩, k, comp, h2, h3, h1, h4⟩
theorem xs_K {s : State} {args : Array Value} (hts : ∀ w ∈ lw_tbl, w.before args s = true) : ∃ (dC : Nat → ClassId) (dI : Nat → Nat → Nat) (cA : Nat → ClassId), va_K (dC, dI) xcls (xtys cA) s := by
  have hg : ∀ w ∈ lw_g, w.before args s = true := fun w hw => hts w (List.mem_filter.mp hw).1
  have hk : ∀ c : Nat, ∃ q : ClassId × (Nat → Nat), c < 13 → u_Kn s (cn c) (xT c) (xNf c) q.1 q.2 := by
    intro c
    by_cases hc : c < 13
    · obtain ⟨cC, iS, h⟩ := u_known hg (u_in hc) (hg _ (iW_in hc).1)
      exact ⟨(cC, iS), fun _ => h⟩
    · exact ⟨(0, fun _ => 0), fun h => absurd h hc⟩
  obtain ⟨c1, a1, b1⟩ := xs_arr (hg _ wA_int) (fun C h => by cases h)
  obtain ⟨c2, a2, b2⟩ := xs_arr (hg _ wA_byte) (fun C h => by cases h)
  obtain ⟨c3, a3, b3⟩ := xs_arr (hg _ wA_boolean) (fun C h => by cases h)
  obtain ⟨c4, a4, b4⟩ := xs_arr (hg _ wA_long) (fun C h => by cases h)
  obtain ⟨c5, a5, b5⟩ := xs_obj (hts _ w_aoR)
  obtain ⟨c6, a6, b6⟩ := xs_obj (hts _ w_aoS)
  refine ⟨fun c => (Classical.choose (hk c)).1, fun c => (Classical.choose (hk c)).2, fun t => if t = 101 then c1 else if t = 102 then c2 else if t = 103 then c3 else if t = 104 then c4 else if t = 105 then c5 else c6, fun c q hq => ?_, fun k q hq => ?_⟩
  · have hc : c < 13 := by
      have := (List.getElem?_eq_some_iff.mp hq).1
      simpa [xcls] using this
    rw [xcls_at hc] at hq
    cases hq
    exact Classical.choose_spec (hk c) hc
  · match k, hq with
    | 0, hq => cases hq; exact ⟨a1, b1⟩
    | 1, hq => cases hq; exact ⟨a2, b2⟩
    | 2, hq => cases hq; exact ⟨a3, b3⟩
    | 3, hq => cases hq; exact ⟨a4, b4⟩
    | 4, hq => cases hq; exact ⟨a5, b5⟩
    | 5, hq => cases hq; exact ⟨a6, b6⟩
    | k + 6, hq => cases hq
/-- the geometry ahead of all -/
def xG0 (scr : (Int → Int) × Nat) : XG := (fun _ _ => none, (fun _ => (0, 0), (0, scr)))
theorem law_of {p : Program} {e : Env} {s : State} {m : MethodId} {below : List Frame} {meth : Method} {c : Code} {l : Launch} {b L : Nat} {xs : Nat → Int32} {xStr : State → Prop} {a1 : Nat} (hL : L ≤ 3072) (C0 : lw_At p s m meth c b L xs) (hX : xStrOk xStr) (hs : xStr s) (hSR : ∀ (dC : Nat → ClassId) (dI : Nat → Nat → Nat) (cA : Nat → ClassId) (scr : (Int → Int) × Nat), xStrRows l s.heap.size s.heap scr dC dI cA (fun t => if t = 2 then b else a1) xStr)
    (hlaw : xR 2048 264 (mE 264) 0 [xt 2, xt 0, xt 0, xt 0] [] (fun _ _ => 0) (fun _ _ => 0) (xG0 ((fun j => (xs j.toNat).toInt), L)) 600000 7302250 (fun r _ _ _ => r = some (xi 1))) :
    W p l e room_1 s m #[Value.ref b] below meth c s.heap [] 0 0 (lw_Z below #[Value.ref b] s) (entryFrame m ([Value.ref b] : List Value).toArray 4) := by
  obtain ⟨hx, hb, hr, hml, hown, hts, hXs, hbl, hlocks, hgv⟩ := C0
  obtain ⟨dC, dI, cA, hK⟩ := xs_K hts
  have hg : ∀ w ∈ lw_g, w.before #[Value.ref b] s = true := fun w hw => hts w (List.mem_filter.mp hw).1
  have hsim := xR_sim (l := l) (sz0 := s.heap.size) (H00 := s.heap) (scr := ((fun j => (xs j.toNat).toInt), L)) (dC := dC) (dI := dI) (cA := cA) (tk := fun t => if t = 2 then b else a1) hX (hSR dC dI cA _) _ _ _ _ _ _ _ _ _ _ _ _ hlaw
  have hXs2 : va_X b L (fun j => Int32.ofInt ((xs ((j : Int)).toNat).toInt)) s s.heap := by
    obtain ⟨scr, h1, h2, h3, h4, h5⟩ := hXs
    refine ⟨scr, h1, h2, h3, h4, fun j hj => ?_⟩
    rw [h5 j hj]
    show _ = some (Value.int (Int32.ofInt (xs ((j : Int)).toNat).toInt))
    rw [Int32.ofInt_toInt, Int.toNat_natCast]
  have hCt : xCt s.heap.size s.heap ((fun j => (xs j.toNat).toInt), L) dC dI cA (fun t => if t = 2 then b else a1) xStr s := by
    refine ⟨hK, fun q hq hn => ?_, va_Nw.of rfl (hts _ w_castable), va_AO.of (hts _ w_aoR), va_AO.of (hts _ w_aoS), hXs2, hbl, by show L ≤ 1000000; omega, hs⟩
    have h1 := List.all_eq_true.mp mT_ok q hq
    simp only [decide_eq_true_eq] at h1
    have h2 := hts _ (List.mem_of_getElem? h1)
    rw [mTw_nest hn] at h2 ⊢
    exact va_Nw.of rfl h2
  have hpc : pcO (mE 264) 0 = some 0 := of_decide_eq_true (List.all_eq_true.mp mE_at0 264 (List.mem_range.mpr (by decide)))
  have hn : (mY 264).name = "<init>" → meth.name = "<init>" := fun h => absurd h (by decide +kernel)
  have hB : xBase p s m #[Value.ref b] meth c 264 := ⟨hx, hb, hml, hown, hg, hr, hlocks, hn, by decide⟩
  have hH : xHp s.heap.size s.heap ((fun j => (xs j.toNat).toInt), L) dC dI cA (fun _ _ => 0) (fun _ _ => 0) (xG0 ((fun j => (xs j.toNat).toInt), L)) s.heap := ⟨rfl, fun i h => absurd rfl h, fun i => Nat.zero_le _, (fun k q hq => by
    have hq2 : ([] : va_W)[k]? = some q := hq
    simp at hq2), fun _ _ => rfl, rfl⟩
  rw [lg_entry_eq]
  have := hsim rfl p e room_1 s m #[Value.ref b] below meth c s.heap [] 0 0 600000 7302250 ((lg_sl ([Value.ref b] : List Value) ++ List.replicate (4 - (lg_sl ([Value.ref b] : List Value)).length) Slot.unset).toArray) (lw_Z below #[Value.ref b] s) hB hCt ⟨by decide, by decide, rfl, rfl, by decide, by decide⟩ (Nat.le_refl _) va_S.rf hH (xent_has (sz0 := s.heap.size) (tk := fun t => if t = 2 then b else a1) (as := [xt 2]) (n := 4) (by decide)) ?_
  · rw [hpc] at this
    exact this
  · intro r I' L' G' H' locs' cells' slots' arr' pc ins hd hins hH' hS' hc' hs' hp
    subst hp
    rcases hins with ⟨rfl, a, ha, hty⟩ | ⟨rfl, hty, a, ha⟩ | ⟨rfl, -, a, ha⟩ | ⟨rfl, hty, ha⟩
    · refine va_forget (fun q hq => hS'.2.2 q hq) ?_
      refine W.widen (k := 600000) (n := 7302250) hc' hs' ?_
      exact lw_ret hx hb hr hlocks hd
    · cases ha
    · cases ha
    · cases ha
