/-! the names' text: String's own methods, over the words lw_g; they read alone -/
def sw (y : MethodName) (b : ByteArray) (n : Nat) (r : Option FieldType) : List Cond := .code y b n r :: lw_g
theorem sw_good {y : MethodName} {b : ByteArray} {n : Nat} {r : Option FieldType} (h : Cond.code y b n r ∈ lw_g) : GoodIn lw_g (sw y b n r) := by
  intro w hw
  rcases List.mem_cons.mp hw with h1 | h1
  · subst h1
    exact lw_g_good _ h
  · exact lw_g_good _ h1
abbrev b_coder : ByteArray := prog_18_method_152_code
def y_coder : MethodName := ⟨"java/lang/String", "coder", "()B"⟩
theorem d_coder_0 : decode b_coder 0 = .ok (.getstatic 38, 3) := by decide +kernel
theorem d_coder_3 : decode b_coder 3 = .ok (.ifCond .eq 10, 3) := by decide +kernel
theorem d_coder_6 : decode b_coder 6 = .ok (.aload_n 0, 1) := by decide +kernel
theorem d_coder_7 : decode b_coder 7 = .ok (.getfield 15, 3) := by decide +kernel
theorem d_coder_10 : decode b_coder 10 = .ok (.goto 4, 3) := by decide +kernel
theorem d_coder_14 : decode b_coder 14 = .ok (.ireturn, 1) := by decide +kernel
theorem wc_coder : Cond.code y_coder b_coder 1 (some .byte) ∈ lw_g := lw_g_of (i := 610) (by decide +kernel) rfl
abbrev b_latin : ByteArray := prog_18_method_154_code
def y_latin : MethodName := ⟨"java/lang/String", "isLatin1", "()Z"⟩
theorem d_latin_0 : decode b_latin 0 = .ok (.getstatic 38, 3) := by decide +kernel
theorem d_latin_3 : decode b_latin 3 = .ok (.ifCond .eq 14, 3) := by decide +kernel
theorem d_latin_6 : decode b_latin 6 = .ok (.aload_n 0, 1) := by decide +kernel
theorem d_latin_7 : decode b_latin 7 = .ok (.getfield 15, 3) := by decide +kernel
theorem d_latin_10 : decode b_latin 10 = .ok (.ifCond .ne 7, 3) := by decide +kernel
theorem d_latin_13 : decode b_latin 13 = .ok (.iconst 1, 1) := by decide +kernel
theorem d_latin_14 : decode b_latin 14 = .ok (.goto 4, 3) := by decide +kernel
theorem d_latin_18 : decode b_latin 18 = .ok (.ireturn, 1) := by decide +kernel
theorem wc_latin : Cond.code y_latin b_latin 1 (some .boolean) ∈ lw_g := lw_g_of (i := 624) (by decide +kernel) rfl
abbrev b_length : ByteArray := prog_18_method_54_code
def y_length : MethodName := ⟨"java/lang/String", "length", "()I"⟩
theorem d_length_0 : decode b_length 0 = .ok (.aload_n 0, 1) := by decide +kernel
theorem d_length_1 : decode b_length 1 = .ok (.getfield 9, 3) := by decide +kernel
theorem d_length_4 : decode b_length 4 = .ok (.arraylength, 1) := by decide +kernel
theorem d_length_5 : decode b_length 5 = .ok (.aload_n 0, 1) := by decide +kernel
theorem d_length_6 : decode b_length 6 = .ok (.invokevirtual 335, 3) := by decide +kernel
theorem d_length_9 : decode b_length 9 = .ok (.ishr, 1) := by decide +kernel
theorem d_length_10 : decode b_length 10 = .ok (.ireturn, 1) := by decide +kernel
theorem wc_length : Cond.code y_length b_length 1 (some .int) ∈ lw_g := lw_g_of (i := 606) (by decide +kernel) rfl
abbrev b_prechk : ByteArray := prog_23_method_11_code
def y_prechk : MethodName := ⟨"jdk/internal/util/Preconditions", "checkIndex", "(IILjava/util/function/BiFunction;)I"⟩
theorem d_prechk_0 : decode b_prechk 0 = .ok (.iload_n 0, 1) := by decide +kernel
theorem d_prechk_1 : decode b_prechk 1 = .ok (.ifCond .lt 8, 3) := by decide +kernel
theorem d_prechk_4 : decode b_prechk 4 = .ok (.iload_n 0, 1) := by decide +kernel
theorem d_prechk_5 : decode b_prechk 5 = .ok (.iload_n 1, 1) := by decide +kernel
theorem d_prechk_6 : decode b_prechk 6 = .ok (.if_icmp .lt 10, 3) := by decide +kernel
theorem d_prechk_16 : decode b_prechk 16 = .ok (.iload_n 0, 1) := by decide +kernel
theorem d_prechk_17 : decode b_prechk 17 = .ok (.ireturn, 1) := by decide +kernel
theorem wc_prechk : Cond.code y_prechk b_prechk 3 (some .int) ∈ lw_g := lw_g_of (i := 635) (by decide +kernel) rfl
abbrev b_check : ByteArray := prog_18_method_155_code
def y_check : MethodName := ⟨"java/lang/String", "checkIndex", "(II)V"⟩
theorem d_check_0 : decode b_check 0 = .ok (.iload_n 0, 1) := by decide +kernel
theorem d_check_1 : decode b_check 1 = .ok (.iload_n 1, 1) := by decide +kernel
theorem d_check_2 : decode b_check 2 = .ok (.getstatic 1053, 3) := by decide +kernel
theorem d_check_5 : decode b_check 5 = .ok (.invokestatic 1059, 3) := by decide +kernel
theorem d_check_8 : decode b_check 8 = .ok (.pop, 1) := by decide +kernel
theorem d_check_9 : decode b_check 9 = .ok (.return_, 1) := by decide +kernel
theorem wc_check : Cond.code y_check b_check 2 (none) ∈ lw_g := lw_g_of (i := 630) (by decide +kernel) rfl
abbrev b_lcharAt : ByteArray := prog_19_method_2_code
def y_lcharAt : MethodName := ⟨"java/lang/StringLatin1", "charAt", "([BI)C"⟩
theorem d_lcharAt_0 : decode b_lcharAt 0 = .ok (.iload_n 1, 1) := by decide +kernel
theorem d_lcharAt_1 : decode b_lcharAt 1 = .ok (.aload_n 0, 1) := by decide +kernel
theorem d_lcharAt_2 : decode b_lcharAt 2 = .ok (.arraylength, 1) := by decide +kernel
theorem d_lcharAt_3 : decode b_lcharAt 3 = .ok (.invokestatic 9, 3) := by decide +kernel
theorem d_lcharAt_6 : decode b_lcharAt 6 = .ok (.aload_n 0, 1) := by decide +kernel
theorem d_lcharAt_7 : decode b_lcharAt 7 = .ok (.iload_n 1, 1) := by decide +kernel
theorem d_lcharAt_8 : decode b_lcharAt 8 = .ok (.baload, 1) := by decide +kernel
theorem d_lcharAt_9 : decode b_lcharAt 9 = .ok (.sipush 255, 3) := by decide +kernel
theorem d_lcharAt_12 : decode b_lcharAt 12 = .ok (.iand, 1) := by decide +kernel
theorem d_lcharAt_13 : decode b_lcharAt 13 = .ok (.i2c, 1) := by decide +kernel
theorem d_lcharAt_14 : decode b_lcharAt 14 = .ok (.ireturn, 1) := by decide +kernel
theorem wc_lcharAt : Cond.code y_lcharAt b_lcharAt 2 (some .char) ∈ lw_g := lw_g_of (i := 627) (by decide +kernel) rfl
abbrev b_charAt : ByteArray := prog_18_method_56_code
def y_charAt : MethodName := ⟨"java/lang/String", "charAt", "(I)C"⟩
theorem d_charAt_0 : decode b_charAt 0 = .ok (.aload_n 0, 1) := by decide +kernel
theorem d_charAt_1 : decode b_charAt 1 = .ok (.invokevirtual 492, 3) := by decide +kernel
theorem d_charAt_4 : decode b_charAt 4 = .ok (.ifCond .eq 12, 3) := by decide +kernel
theorem d_charAt_7 : decode b_charAt 7 = .ok (.aload_n 0, 1) := by decide +kernel
theorem d_charAt_8 : decode b_charAt 8 = .ok (.getfield 9, 3) := by decide +kernel
theorem d_charAt_11 : decode b_charAt 11 = .ok (.iload_n 1, 1) := by decide +kernel
theorem d_charAt_12 : decode b_charAt 12 = .ok (.invokestatic 495, 3) := by decide +kernel
theorem d_charAt_15 : decode b_charAt 15 = .ok (.ireturn, 1) := by decide +kernel
theorem wc_charAt : Cond.code y_charAt b_charAt 2 (some .char) ∈ lw_g := lw_g_of (i := 620) (by decide +kernel) rfl
theorem wi_S : Cond.initialized "java/lang/String" ∈ lw_g := lw_g_of (i := 132) (by decide +kernel) rfl
theorem wi_L : Cond.initialized "java/lang/StringLatin1" ∈ lw_g := lw_g_of (i := 133) (by decide +kernel) rfl
theorem wi_P : Cond.initialized "jdk/internal/util/Preconditions" ∈ lw_g := lw_g_of (i := 134) (by decide +kernel) rfl
theorem wf_38 : Cond.fieldLink "java/lang/String" 38 "java/lang/String" "COMPACT_STRINGS" "Z" ∈ lw_g := lw_g_of (i := 611) (by decide +kernel) rfl
theorem wf_15 : Cond.fieldLink "java/lang/String" 15 "java/lang/String" "coder" "B" ∈ lw_g := lw_g_of (i := 1847) (by decide +kernel) rfl
theorem wf_9 : Cond.fieldLink "java/lang/String" 9 "java/lang/String" "value" "[B" ∈ lw_g := lw_g_of (i := 1846) (by decide +kernel) rfl
theorem wf_1053 : Cond.fieldLink "java/lang/String" 1053 "jdk/internal/util/Preconditions" "SIOOBE_FORMATTER" "Ljava/util/function/BiFunction;" ∈ lw_g := lw_g_of (i := 631) (by decide +kernel) rfl
theorem wn_coder : Cond.instanceMethod y_coder ∈ lw_g := lw_g_of (i := 608) (by decide +kernel) rfl
theorem wl_coder : Cond.selects "java/lang/String" y_coder y_coder ∈ lw_g := lw_g_of (i := 609) (by decide +kernel) rfl
theorem wn_latin : Cond.instanceMethod y_latin ∈ lw_g := lw_g_of (i := 622) (by decide +kernel) rfl
theorem wl_latin : Cond.selects "java/lang/String" y_latin y_latin ∈ lw_g := lw_g_of (i := 623) (by decide +kernel) rfl
theorem wn_length : Cond.instanceMethod y_length ∈ lw_g := lw_g_of (i := 604) (by decide +kernel) rfl
theorem wl_length : Cond.selects "java/lang/String" y_length y_length ∈ lw_g := lw_g_of (i := 605) (by decide +kernel) rfl
theorem wn_charAt : Cond.instanceMethod y_charAt ∈ lw_g := lw_g_of (i := 618) (by decide +kernel) rfl
theorem wl_charAt : Cond.selects "java/lang/String" y_charAt y_charAt ∈ lw_g := lw_g_of (i := 619) (by decide +kernel) rfl
theorem wt_prechk : Cond.static y_prechk ∈ lw_g := lw_g_of (i := 634) (by decide +kernel) rfl
theorem wt_check : Cond.static y_check ∈ lw_g := lw_g_of (i := 629) (by decide +kernel) rfl
theorem wt_lcharAt : Cond.static y_lcharAt ∈ lw_g := lw_g_of (i := 626) (by decide +kernel) rfl
theorem wm_coder : Cond.methodLink "java/lang/String" 335 y_coder ∈ lw_g := lw_g_of (i := 607) (by decide +kernel) rfl
theorem wm_latin : Cond.methodLink "java/lang/String" 492 y_latin ∈ lw_g := lw_g_of (i := 621) (by decide +kernel) rfl
theorem wm_prechk : Cond.methodLink "java/lang/String" 1059 y_prechk ∈ lw_g := lw_g_of (i := 633) (by decide +kernel) rfl
theorem wm_check : Cond.methodLink "java/lang/StringLatin1" 9 y_check ∈ lw_g := lw_g_of (i := 628) (by decide +kernel) rfl
theorem wm_lcharAt : Cond.methodLink "java/lang/String" 495 y_lcharAt ∈ lw_g := lw_g_of (i := 625) (by decide +kernel) rfl
/-- the bytes of the text -/
def xbyt : List Int32 := xnm.map Int32.ofInt
theorem xb_all : ∀ i : Nat, i < 126 → (((xbyt.getD i 0 &&& 255).toUInt32 % 65536).toInt32 = Int32.ofInt (xnm.getD i 0) ∧ Int32.ofInt (xnm.getD i 0) = xbyt.getD i 0 &&& 255) := by decide +kernel
abbrev xn0 : Nat → Prop := fun _ => False
/-- what these methods read -/
def xsW (a v : Nat) (A : Nat → Prop) (U : State) (H : Heap) : Prop := va_O "java/lang/String" a A U H ∧ va_OF "java/lang/String" "coder" "B" (.int 0) a A U H ∧ va_OF "java/lang/String" "value" "[B" (.ref v) a A U H ∧ va_T .byte v 126 (fun j => .int (xbyt.getD j 0)) A U H ∧ va_Z "java/lang/String" "COMPACT_STRINGS" "Z" (.int 1) A U H ∧ va_Zq "jdk/internal/util/Preconditions" "SIOOBE_FORMATTER" "Ljava/util/function/BiFunction;" A U H
theorem xsW.moved {a v : Nat} {A : Nat → Prop} {u U : State} {H : Heap} (hvm : u.vm.Alike U.vm) (h : xsW a v A u H) : xsW a v A U H := ⟨va_O.moved hvm h.1, va_OF.moved hvm h.2.1, va_OF.moved hvm h.2.2.1, va_T.moved hvm h.2.2.2.1, va_Z.moved hvm h.2.2.2.2.1, va_Zq.moved hvm h.2.2.2.2.2⟩
theorem xsW.kept {a v : Nat} {A : Nat → Prop} {U : State} {H H1 : Heap} (h : xsW a v A U H) (hq : ∀ a : Nat, a < H.size → ¬ A a → H1[a]? = H[a]?) : xsW a v A U H1 := ⟨h.1.kept hq, h.2.1.kept hq, h.2.2.1.kept hq, h.2.2.2.1.kept hq, h.2.2.2.2.1.kept hq, h.2.2.2.2.2.kept hq⟩
theorem xsW.narrow {a v : Nat} {A B : Nat → Prop} {U : State} {H : Heap} (h : xsW a v A U H) (hAB : ∀ q, B q → A q) : xsW a v B U H := ⟨h.1.narrow hAB, h.2.1.narrow hAB, h.2.2.1.narrow hAB, h.2.2.2.1.narrow hAB, h.2.2.2.2.1.narrow hAB, h.2.2.2.2.2.narrow hAB⟩
/-- the end of a method that only reads: its answer, the heap as it was -/
def xQs (r : Option Value) : Array Value → State → Outcome → State → Prop := fun _ st oc t => oc = .returned r ∧ t.heap = st.heap
theorem x_call {p : Program} {l : Launch} {e : Env} {R : Room} {s : State} {m : MethodId} {args : Array Value} {below : List Frame} {meth : Method} {c : Code} {H : Heap} {locs : List Loc} {cells slots : Nat} {Q : State → Prop} {pc : Nat} {ls : Array Slot} {rest st0 : List Value} {a : Array Value} {r : Option Value} (hr : va_Run p l e R s m args below meth c H locs cells slots 0 0 (F0 m pc ls st0) rest (xQs r a) xn0) (kk : W p l e R s m args below meth c H locs cells slots Q (F0 m (pc + 3) ls (r.toList ++ rest))) : W p l e R s m args below meth c H locs cells slots Q (F0 m pc ls st0) := by
  intro T hT X
  obtain ⟨v, st₀, t, T', L, h0, X', hL, e1, e2, ⟨hv, hh⟩, st⟩ := hr T hT X
  cases hv
  have hL0 : L = [] := by
    cases L with
    | nil => rfl
    | cons q L => exact (hL q List.mem_cons_self).elim
  subst hL0
  rw [List.append_nil] at X'
  obtain ⟨t2, a1, b1⟩ := kk T' (by rw [e1, hh, h0]) X'
  exact ⟨t2, st t2 a1, b1⟩
theorem x_calli {p : Program} {l : Launch} {e : Env} {R : Room} {s : State} {m : MethodId} {args : Array Value} {below : List Frame} {meth : Method} {c : Code} {H : Heap} {locs : List Loc} {cells slots : Nat} {Q : State → Prop} {pc : Nat} {ls : Array Slot} {rest st0 : List Value} {a : Array Value} {r : Int32} (hr : va_Run p l e R s m args below meth c H locs cells slots 0 0 (F0 m pc ls st0) rest (xQs (some (.int r)) a) xn0) (kk : W p l e R s m args below meth c H locs cells slots Q (F0 m (pc + 3) ls (.int r :: rest))) : W p l e R s m args below meth c H locs cells slots Q (F0 m pc ls st0) := x_call hr kk
theorem x_callv {p : Program} {l : Launch} {e : Env} {R : Room} {s : State} {m : MethodId} {args : Array Value} {below : List Frame} {meth : Method} {c : Code} {H : Heap} {locs : List Loc} {cells slots : Nat} {Q : State → Prop} {pc : Nat} {ls : Array Slot} {rest st0 : List Value} {a : Array Value} (hr : va_Run p l e R s m args below meth c H locs cells slots 0 0 (F0 m pc ls st0) rest (xQs none a) xn0) (kk : W p l e R s m args below meth c H locs cells slots Q (F0 m (pc + 3) ls rest)) : W p l e R s m args below meth c H locs cells slots Q (F0 m pc ls st0) := x_call hr kk
theorem x_pre {s : State} {H : Heap} {a v : Nat} {av : List Value} (h : xsW a v xn0 s H) : FrameBlind (va_Pc av (fun U => xsW a v xn0 U U.heap)) ∧ ∀ U : State, U.heap = H → s.WarmedH U.vm → va_Pc av (fun U => xsW a v xn0 U U.heap) av.toArray U :=
  ⟨fun a U g mk q => ⟨q.1, xsW.moved (u := U) (U := U.calling g mk a) (Vm.Alike.refl U.vm) q.2⟩, fun U hU hW => ⟨rfl, by show xsW a v xn0 U U.heap; rw [hU]; exact xsW.moved hW.alike h⟩⟩
theorem x_recv {s : State} {H : Heap} {a v : Nat} (h : xsW a v xn0 s H) : ∃ cell : Cell, H[a]? = some cell ∧ cell.vm.isStatics = false ∧ s.vm.findClass "java/lang/String" = some cell.cls := by
  obtain ⟨cell, h1, h2, h3, -⟩ := h.1
  exact ⟨cell, h1, h2, h3⟩
theorem c_coder (l : Launch) (a v : Nat) : Met l y_coder (sw y_coder b_coder 1 (some .byte)) ({ frames := 0, cells := 0, slots := 0, locals := 0 }) (va_Pc [.ref a] (fun U => xsW a v xn0 U U.heap)) (xQs (some (.int 0))) 0 0 xn0 := by
  refine Met.ofW (cc := b_coder) (maxL := 1) (ret := some .byte) (by decide) rfl ?_
  intro p e s m args below meth c s₁ B hml hv
  obtain ⟨rfl, hw⟩ := hv
  have hx := B.exec
  have hb := B.bytes
  have hr := B.returns
  have hts0 := atoms_spec (ws := sw y_coder b_coder 1 (some .byte)) B.pre
  have hw : xsW a v xn0 s s.heap := hw
  have hts := fun (w : Cond) (h : w ∈ lw_g) => hts0 w (List.mem_cons_of_mem _ h)
  have hown : s.vm.findClass "java/lang/String" = some m.cls := findClass_of_methodNamed B.named
  have hlocks := B.notSynchronized
  have hS : va_S xn0 s.heap s.heap [] := va_S.rf
  have hl := lv_entry ([.ref a]) (n := 1) (Nat.le_of_ble_eq_true rfl)
  rw [lg_entry_eq]
  generalize (lg_sl ([.ref a]) ++ List.replicate (1 - (lg_sl ([.ref a])).length) Slot.unset).toArray = ls at hl ⊢
  have hl : lv_has ls 1 [(0, .ref a)] := hl
  refine va_gets hx hb hw.2.2.2.2.1 hS hown (hts _ wf_38) (fun _ h9 => h9) d_coder_0 ?_
  refine lv_if_eq (tgt := 13) hx hb d_coder_3 rfl (fun h => absurd h (by decide)) (fun _ => ?_)
  refine lv_aload_n hx hb d_coder_6 rfl (lv_at hl 0 rfl) ?_
  refine vk_getf hx hb hw.2.1 hS hown (hts _ wf_15) (fun _ h9 => h9) d_coder_7 ?_
  refine lv_goto (tgt := 14) hx hb d_coder_10 rfl ?_
  exact W.zret hx hb hr rfl (fun t ht hW => ⟨rfl, ht⟩) hS.2.2 d_coder_14
theorem c_latin (l : Launch) (a v : Nat) : Met l y_latin (sw y_latin b_latin 1 (some .boolean)) ({ frames := 0, cells := 0, slots := 0, locals := 0 }) (va_Pc [.ref a] (fun U => xsW a v xn0 U U.heap)) (xQs (some (.int 1))) 0 0 xn0 := by
  refine Met.ofW (cc := b_latin) (maxL := 1) (ret := some .boolean) (by decide) rfl ?_
  intro p e s m args below meth c s₁ B hml hv
  obtain ⟨rfl, hw⟩ := hv
  have hx := B.exec
  have hb := B.bytes
  have hr := B.returns
  have hts0 := atoms_spec (ws := sw y_latin b_latin 1 (some .boolean)) B.pre
  have hw : xsW a v xn0 s s.heap := hw
  have hts := fun (w : Cond) (h : w ∈ lw_g) => hts0 w (List.mem_cons_of_mem _ h)
  have hown : s.vm.findClass "java/lang/String" = some m.cls := findClass_of_methodNamed B.named
  have hlocks := B.notSynchronized
  have hS : va_S xn0 s.heap s.heap [] := va_S.rf
  have hl := lv_entry ([.ref a]) (n := 1) (Nat.le_of_ble_eq_true rfl)
  rw [lg_entry_eq]
  generalize (lg_sl ([.ref a]) ++ List.replicate (1 - (lg_sl ([.ref a])).length) Slot.unset).toArray = ls at hl ⊢
  have hl : lv_has ls 1 [(0, .ref a)] := hl
  refine va_gets hx hb hw.2.2.2.2.1 hS hown (hts _ wf_38) (fun _ h9 => h9) d_latin_0 ?_
  refine lv_if_eq (tgt := 17) hx hb d_latin_3 rfl (fun h => absurd h (by decide)) (fun _ => ?_)
  refine lv_aload_n hx hb d_latin_6 rfl (lv_at hl 0 rfl) ?_
  refine vk_getf hx hb hw.2.1 hS hown (hts _ wf_15) (fun _ h9 => h9) d_latin_7 ?_
  refine lv_if_ne (tgt := 17) hx hb d_latin_10 rfl (fun h => absurd rfl h) (fun _ => ?_)
  refine lv_iconst hx hb d_latin_13 rfl ?_
  refine lv_goto (tgt := 18) hx hb d_latin_14 rfl ?_
  exact W.zret hx hb hr rfl (fun t ht hW => ⟨rfl, ht⟩) hS.2.2 d_latin_18
theorem c_length (l : Launch) (a v : Nat) : Met l y_length (sw y_length b_length 1 (some .int)) ({ frames := 1, cells := 0, slots := 0, locals := 20 }) (va_Pc [.ref a] (fun U => xsW a v xn0 U U.heap)) (xQs (some (.int (Int32.ofInt 126)))) 0 0 xn0 := by
  refine Met.ofW (cc := b_length) (maxL := 1) (ret := some .int) (by decide) rfl ?_
  intro p e s m args below meth c s₁ B hml hv
  obtain ⟨rfl, hw⟩ := hv
  have hx := B.exec
  have hb := B.bytes
  have hr := B.returns
  have hts0 := atoms_spec (ws := sw y_length b_length 1 (some .int)) B.pre
  have hw : xsW a v xn0 s s.heap := hw
  have hts := fun (w : Cond) (h : w ∈ lw_g) => hts0 w (List.mem_cons_of_mem _ h)
  have hown : s.vm.findClass "java/lang/String" = some m.cls := findClass_of_methodNamed B.named
  have hlocks := B.notSynchronized
  have hS : va_S xn0 s.heap s.heap [] := va_S.rf
  have hl := lv_entry ([.ref a]) (n := 1) (Nat.le_of_ble_eq_true rfl)
  rw [lg_entry_eq]
  generalize (lg_sl ([.ref a]) ++ List.replicate (1 - (lg_sl ([.ref a])).length) Slot.unset).toArray = ls at hl ⊢
  have hl : lv_has ls 1 [(0, .ref a)] := hl
  refine lv_aload_n hx hb d_length_0 rfl (lv_at hl 0 rfl) ?_
  refine vk_getf hx hb hw.2.2.1 hS hown (hts _ wf_9) (fun _ h9 => h9) d_length_1 ?_
  refine va_tlen hx hb hw.2.2.2.1 hS (v := Int32.ofInt 126) (by decide) d_length_4 ?_
  refine lv_aload_n hx hb d_length_5 rfl (lv_at hl 0 rfl) ?_
  refine x_calli (va_runV (As := ([] : List Value)) (rest := [.int (Int32.ofInt 126)]) ⟨hx, hb, hml, hown, hts⟩ (c_coder l a v) ⟨callB_of 0 hts (sw_good wc_coder) rfl rfl rfl (hts _ wi_S) (hts _ wm_coder) (by decide +kernel) ⟨Nat.le_of_ble_eq_true rfl, Nat.le_of_ble_eq_true rfl⟩, hts _ wn_coder, hts _ wl_coder⟩ ⟨(x_pre hw).1, x_recv hw, (x_pre hw).2⟩ rfl rfl hl.1 rfl (lv_room (Nat.le_of_ble_eq_true rfl)) d_length_6 ⟨Nat.le_of_ble_eq_true rfl, Nat.le_of_ble_eq_true rfl⟩) ?_
  refine lv_ishr hx hb d_length_9 ?_
  refine lv_topi (fun y ey => ?_)
  obtain rfl : y = Int32.ofInt 126 := ey.trans (by decide)
  exact W.iret hx hb hr (fun t ht hW => ⟨rfl, ht⟩) hS.2.2 d_length_10
theorem c_prechk_r (l : Launch) (a v : Nat) (i n : Int32) (f : Nat) (h0 : ¬ i < 0) (h1 : i < n) : Met l y_prechk (sw y_prechk b_prechk 3 (some .int)) ({ frames := 0, cells := 0, slots := 0, locals := 0 }) (va_Pc [.int i, .int n, .ref f] (fun U => xsW a v xn0 U U.heap)) (xQs (some (.int i))) 0 0 xn0 := by
  refine Met.ofW (cc := b_prechk) (maxL := 3) (ret := some .int) (by decide) rfl ?_
  intro p e s m args below meth c s₁ B hml hv
  obtain ⟨rfl, hw⟩ := hv
  have hx := B.exec
  have hb := B.bytes
  have hr := B.returns
  have hts0 := atoms_spec (ws := sw y_prechk b_prechk 3 (some .int)) B.pre
  have hw : xsW a v xn0 s s.heap := hw
  have hts := fun (w : Cond) (h : w ∈ lw_g) => hts0 w (List.mem_cons_of_mem _ h)
  have hown : s.vm.findClass "jdk/internal/util/Preconditions" = some m.cls := findClass_of_methodNamed B.named
  have hlocks := B.notSynchronized
  have hS : va_S xn0 s.heap s.heap [] := va_S.rf
  have hl := lv_entry ([.int i, .int n, .ref f]) (n := 3) (Nat.le_of_ble_eq_true rfl)
  rw [lg_entry_eq]
  generalize (lg_sl ([.int i, .int n, .ref f]) ++ List.replicate (3 - (lg_sl ([.int i, .int n, .ref f])).length) Slot.unset).toArray = ls at hl ⊢
  have hl : lv_has ls 3 [(0, .int i), (1, .int n), (2, .ref f)] := hl
  refine lv_iload_n hx hb d_prechk_0 rfl (lv_at hl 0 rfl) ?_
  refine lv_if_lt (tgt := 9) hx hb d_prechk_1 rfl (fun h => absurd h h0) (fun _ => ?_)
  refine lv_iload_n hx hb d_prechk_4 rfl (lv_at hl 0 rfl) ?_
  refine lv_iload_n hx hb d_prechk_5 rfl (lv_at hl 1 rfl) ?_
  refine lv_icmp_lt (tgt := 16) hx hb d_prechk_6 rfl (fun _ => ?_) (fun h => absurd h1 h)
  refine lv_iload_n hx hb d_prechk_16 rfl (lv_at hl 0 rfl) ?_
  exact W.iret hx hb hr (fun t ht hW => ⟨rfl, ht⟩) hS.2.2 d_prechk_17
theorem c_prechk_n (l : Launch) (a v : Nat) (i n : Int32) (h0 : ¬ i < 0) (h1 : i < n) : Met l y_prechk (sw y_prechk b_prechk 3 (some .int)) ({ frames := 0, cells := 0, slots := 0, locals := 0 }) (va_Pc [.int i, .int n, .null] (fun U => xsW a v xn0 U U.heap)) (xQs (some (.int i))) 0 0 xn0 := by
  refine Met.ofW (cc := b_prechk) (maxL := 3) (ret := some .int) (by decide) rfl ?_
  intro p e s m args below meth c s₁ B hml hv
  obtain ⟨rfl, hw⟩ := hv
  have hx := B.exec
  have hb := B.bytes
  have hr := B.returns
  have hts0 := atoms_spec (ws := sw y_prechk b_prechk 3 (some .int)) B.pre
  have hw : xsW a v xn0 s s.heap := hw
  have hts := fun (w : Cond) (h : w ∈ lw_g) => hts0 w (List.mem_cons_of_mem _ h)
  have hown : s.vm.findClass "jdk/internal/util/Preconditions" = some m.cls := findClass_of_methodNamed B.named
  have hlocks := B.notSynchronized
  have hS : va_S xn0 s.heap s.heap [] := va_S.rf
  have hl := lv_entry ([.int i, .int n, .null]) (n := 3) (Nat.le_of_ble_eq_true rfl)
  rw [lg_entry_eq]
  generalize (lg_sl ([.int i, .int n, .null]) ++ List.replicate (3 - (lg_sl ([.int i, .int n, .null])).length) Slot.unset).toArray = ls at hl ⊢
  have hl : lv_has ls 3 [(0, .int i), (1, .int n), (2, .null)] := hl
  refine lv_iload_n hx hb d_prechk_0 rfl (lv_at hl 0 rfl) ?_
  refine lv_if_lt (tgt := 9) hx hb d_prechk_1 rfl (fun h => absurd h h0) (fun _ => ?_)
  refine lv_iload_n hx hb d_prechk_4 rfl (lv_at hl 0 rfl) ?_
  refine lv_iload_n hx hb d_prechk_5 rfl (lv_at hl 1 rfl) ?_
  refine lv_icmp_lt (tgt := 16) hx hb d_prechk_6 rfl (fun _ => ?_) (fun h => absurd h1 h)
  refine lv_iload_n hx hb d_prechk_16 rfl (lv_at hl 0 rfl) ?_
  exact W.iret hx hb hr (fun t ht hW => ⟨rfl, ht⟩) hS.2.2 d_prechk_17
theorem c_prechk (l : Launch) (a v : Nat) (i n : Int32) (fv : Value) (hfv : fv = .null ∨ ∃ f : Nat, fv = .ref f) (h0 : ¬ i < 0) (h1 : i < n) : Met l y_prechk (sw y_prechk b_prechk 3 (some .int)) ({ frames := 0, cells := 0, slots := 0, locals := 0 }) (va_Pc [.int i, .int n, fv] (fun U => xsW a v xn0 U U.heap)) (xQs (some (.int i))) 0 0 xn0 := by
  rcases hfv with rfl | ⟨f, rfl⟩
  · exact c_prechk_n l a v i n h0 h1
  · exact c_prechk_r l a v i n f h0 h1
theorem c_check (l : Launch) (a v : Nat) (i n : Int32) (h0 : ¬ i < 0) (h1 : i < n) : Met l y_check (sw y_check b_check 2 (none)) ({ frames := 1, cells := 0, slots := 0, locals := 22 }) (va_Pc [.int i, .int n] (fun U => xsW a v xn0 U U.heap)) (xQs none) 0 0 xn0 := by
  refine Met.ofW (cc := b_check) (maxL := 2) (ret := none) (by decide) rfl ?_
  intro p e s m args below meth c s₁ B hml hv
  obtain ⟨rfl, hw⟩ := hv
  have hx := B.exec
  have hb := B.bytes
  have hr := B.returns
  have hts0 := atoms_spec (ws := sw y_check b_check 2 (none)) B.pre
  have hw : xsW a v xn0 s s.heap := hw
  have hts := fun (w : Cond) (h : w ∈ lw_g) => hts0 w (List.mem_cons_of_mem _ h)
  have hown : s.vm.findClass "java/lang/String" = some m.cls := findClass_of_methodNamed B.named
  have hlocks := B.notSynchronized
  have hS : va_S xn0 s.heap s.heap [] := va_S.rf
  have hl := lv_entry ([.int i, .int n]) (n := 2) (Nat.le_of_ble_eq_true rfl)
  rw [lg_entry_eq]
  generalize (lg_sl ([.int i, .int n]) ++ List.replicate (2 - (lg_sl ([.int i, .int n])).length) Slot.unset).toArray = ls at hl ⊢
  have hl : lv_has ls 2 [(0, .int i), (1, .int n)] := hl
  obtain ⟨fv, hfv, hZ⟩ : ∃ fv : Value, (fv = .null ∨ ∃ f : Nat, fv = .ref f) ∧ va_Z "jdk/internal/util/Preconditions" "SIOOBE_FORMATTER" "Ljava/util/function/BiFunction;" fv xn0 s s.heap := by
    rcases hw.2.2.2.2.2 with h | ⟨f, h⟩
    · exact ⟨_, Or.inl rfl, h⟩
    · exact ⟨_, Or.inr ⟨f, rfl⟩, h⟩
  refine lv_iload_n hx hb d_check_0 rfl (lv_at hl 0 rfl) ?_
  refine lv_iload_n hx hb d_check_1 rfl (lv_at hl 1 rfl) ?_
  refine va_gets hx hb hZ hS hown (hts _ wf_1053) (fun _ h9 => h9) d_check_2 ?_
  refine x_calli (va_runS (As := [.int i, .int n, fv]) (rest := ([] : List Value)) ⟨hx, hb, hml, hown, hts⟩ (c_prechk l a v i n fv hfv h0 h1) ⟨callB_of 3 hts (sw_good wc_prechk) rfl rfl rfl (hts _ wi_P) (hts _ wm_prechk) (by decide +kernel) ⟨Nat.le_of_ble_eq_true rfl, Nat.le_of_ble_eq_true rfl⟩, hts _ wt_prechk⟩ (x_pre hw) rfl rfl hl.1 rfl (lv_room (Nat.le_of_ble_eq_true rfl)) d_check_5 ⟨Nat.le_of_ble_eq_true rfl, Nat.le_of_ble_eq_true rfl⟩) ?_
  refine lv_pop hx hb d_check_8 rfl ?_
  exact W.vret hx hb hr (fun t ht hW => ⟨rfl, ht⟩) hS.2.2 d_check_9
theorem c_lcharAt (l : Launch) (a v : Nat) (j : Int) (h0 : 0 ≤ j) (h1 : j < 126) : Met l y_lcharAt (sw y_lcharAt b_lcharAt 2 (some .char)) ({ frames := 2, cells := 0, slots := 0, locals := 43 }) (va_Pc [.ref v, .int (Int32.ofInt j)] (fun U => xsW a v xn0 U U.heap)) (xQs (some (.int (Int32.ofInt (xch j))))) 0 0 xn0 := by
  refine Met.ofW (cc := b_lcharAt) (maxL := 2) (ret := some .char) (by decide) rfl ?_
  intro p e s m args below meth c s₁ B hml hv
  obtain ⟨rfl, hw⟩ := hv
  have hx := B.exec
  have hb := B.bytes
  have hr := B.returns
  have hts0 := atoms_spec (ws := sw y_lcharAt b_lcharAt 2 (some .char)) B.pre
  have hw : xsW a v xn0 s s.heap := hw
  have hts := fun (w : Cond) (h : w ∈ lw_g) => hts0 w (List.mem_cons_of_mem _ h)
  have hown : s.vm.findClass "java/lang/StringLatin1" = some m.cls := findClass_of_methodNamed B.named
  have hlocks := B.notSynchronized
  have hS : va_S xn0 s.heap s.heap [] := va_S.rf
  have hl := lv_entry ([.ref v, .int (Int32.ofInt j)]) (n := 2) (Nat.le_of_ble_eq_true rfl)
  rw [lg_entry_eq]
  generalize (lg_sl ([.ref v, .int (Int32.ofInt j)]) ++ List.replicate (2 - (lg_sl ([.ref v, .int (Int32.ofInt j)])).length) Slot.unset).toArray = ls at hl ⊢
  have hl : lv_has ls 2 [(0, .ref v), (1, .int (Int32.ofInt j))] := hl
  have hj := xb_all j.toNat (by omega)
  refine lv_iload_n hx hb d_lcharAt_0 rfl (lv_at hl 1 rfl) ?_
  refine lv_aload_n hx hb d_lcharAt_1 rfl (lv_at hl 0 rfl) ?_
  refine va_tlen hx hb hw.2.2.2.1 hS (v := Int32.ofInt 126) (by decide) d_lcharAt_2 ?_
  refine x_callv (va_runS (As := [.int (Int32.ofInt j), .int (Int32.ofInt 126)]) (rest := ([] : List Value)) ⟨hx, hb, hml, hown, hts⟩ (c_check l a v (Int32.ofInt j) (Int32.ofInt 126) (xo_nneg h0 (by omega)) ((xo_lt (a := j) (b := 126) ⟨by omega, by omega⟩ ⟨by decide, by decide⟩).mpr h1)) ⟨callB_of 2 hts (sw_good wc_check) rfl rfl rfl (hts _ wi_S) (hts _ wm_check) (by decide +kernel) ⟨Nat.le_of_ble_eq_true rfl, Nat.le_of_ble_eq_true rfl⟩, hts _ wt_check⟩ (x_pre hw) rfl rfl hl.1 rfl (lv_room (Nat.le_of_ble_eq_true rfl)) d_lcharAt_3 ⟨Nat.le_of_ble_eq_true rfl, Nat.le_of_ble_eq_true rfl⟩) ?_
  refine lv_aload_n hx hb d_lcharAt_6 rfl (lv_at hl 0 rfl) ?_
  refine lv_iload_n hx hb d_lcharAt_7 rfl (lv_at hl 1 rfl) ?_
  refine va_tb hx hb hw.2.2.2.1 hS (xo_in h0 (show j < ((126 : Nat) : Int) by omega) (by decide)) (v := .int (xbyt.getD j.toNat 0)) (show Value.int (xbyt.getD (Int32.ofInt j).toNatClampNeg 0) = _ by rw [xo_clamp h0 (by omega)]) d_lcharAt_8 ?_
  refine lv_sipush hx hb d_lcharAt_9 (v := 255) rfl ?_
  refine lv_iand hx hb d_lcharAt_12 ?_
  refine lv_i2c hx hb d_lcharAt_13 hj.1 ?_
  exact W.zret hx hb hr (by rw [hj.2]; exact sc_nar _) (fun t ht hW => ⟨rfl, ht⟩) hS.2.2 d_lcharAt_14
theorem c_charAt (l : Launch) (a v : Nat) (j : Int) (h0 : 0 ≤ j) (h1 : j < 126) : Met l y_charAt (sw y_charAt b_charAt 2 (some .char)) ({ frames := 3, cells := 0, slots := 0, locals := 64 }) (va_Pc [.ref a, .int (Int32.ofInt j)] (fun U => xsW a v xn0 U U.heap)) (xQs (some (.int (Int32.ofInt (xch j))))) 0 0 xn0 := by
  refine Met.ofW (cc := b_charAt) (maxL := 2) (ret := some .char) (by decide) rfl ?_
  intro p e s m args below meth c s₁ B hml hv
  obtain ⟨rfl, hw⟩ := hv
  have hx := B.exec
  have hb := B.bytes
  have hr := B.returns
  have hts0 := atoms_spec (ws := sw y_charAt b_charAt 2 (some .char)) B.pre
  have hw : xsW a v xn0 s s.heap := hw
  have hts := fun (w : Cond) (h : w ∈ lw_g) => hts0 w (List.mem_cons_of_mem _ h)
  have hown : s.vm.findClass "java/lang/String" = some m.cls := findClass_of_methodNamed B.named
  have hlocks := B.notSynchronized
  have hS : va_S xn0 s.heap s.heap [] := va_S.rf
  have hl := lv_entry ([.ref a, .int (Int32.ofInt j)]) (n := 2) (Nat.le_of_ble_eq_true rfl)
  rw [lg_entry_eq]
  generalize (lg_sl ([.ref a, .int (Int32.ofInt j)]) ++ List.replicate (2 - (lg_sl ([.ref a, .int (Int32.ofInt j)])).length) Slot.unset).toArray = ls at hl ⊢
  have hl : lv_has ls 2 [(0, .ref a), (1, .int (Int32.ofInt j))] := hl
  have hj := xb_all j.toNat (by omega)
  refine lv_aload_n hx hb d_charAt_0 rfl (lv_at hl 0 rfl) ?_
  refine x_calli (va_runV (As := ([] : List Value)) (rest := ([] : List Value)) ⟨hx, hb, hml, hown, hts⟩ (c_latin l a v) ⟨callB_of 0 hts (sw_good wc_latin) rfl rfl rfl (hts _ wi_S) (hts _ wm_latin) (by decide +kernel) ⟨Nat.le_of_ble_eq_true rfl, Nat.le_of_ble_eq_true rfl⟩, hts _ wn_latin, hts _ wl_latin⟩ ⟨(x_pre hw).1, x_recv hw, (x_pre hw).2⟩ rfl rfl hl.1 rfl (lv_room (Nat.le_of_ble_eq_true rfl)) d_charAt_1 ⟨Nat.le_of_ble_eq_true rfl, Nat.le_of_ble_eq_true rfl⟩) ?_
  refine lv_if_eq (tgt := 16) hx hb d_charAt_4 rfl (fun h => absurd h (by decide)) (fun _ => ?_)
  refine lv_aload_n hx hb d_charAt_7 rfl (lv_at hl 0 rfl) ?_
  refine vk_getf hx hb hw.2.2.1 hS hown (hts _ wf_9) (fun _ h9 => h9) d_charAt_8 ?_
  refine lv_iload_n hx hb d_charAt_11 rfl (lv_at hl 1 rfl) ?_
  refine x_calli (va_runS (As := [.ref v, .int (Int32.ofInt j)]) (rest := ([] : List Value)) ⟨hx, hb, hml, hown, hts⟩ (c_lcharAt l a v j h0 h1) ⟨callB_of 2 hts (sw_good wc_lcharAt) rfl rfl rfl (hts _ wi_L) (hts _ wm_lcharAt) (by decide +kernel) ⟨Nat.le_of_ble_eq_true rfl, Nat.le_of_ble_eq_true rfl⟩, hts _ wt_lcharAt⟩ (x_pre hw) rfl rfl hl.1 rfl (lv_room (Nat.le_of_ble_eq_true rfl)) d_charAt_12 ⟨Nat.le_of_ble_eq_true rfl, Nat.le_of_ble_eq_true rfl⟩) ?_
  exact W.zret hx hb hr (by show narrow .char (.int (Int32.ofInt (xnm.getD j.toNat 0))) = .int (Int32.ofInt (xnm.getD j.toNat 0)); rw [hj.2]; exact sc_nar _) (fun t ht hW => ⟨rfl, ht⟩) hS.2.2 d_charAt_15
