/-! the names' text: String's own methods -/
abbrev jS : String := "java/lang/String"
abbrev b_coder : ByteArray := prog_18_method_152_code
abbrev b_latin : ByteArray := prog_18_method_154_code
def y_coder : MethodName := ⟨"java/lang/String", "coder", "()B"⟩
def y_latin : MethodName := ⟨"java/lang/String", "isLatin1", "()Z"⟩
def w_coder : List Cond := .code y_coder b_coder 1 (some .byte) :: [.fieldLink "java/lang/String" 38 "java/lang/String" "COMPACT_STRINGS" "Z", .fieldLink "java/lang/String" 15 "java/lang/String" "coder" "B"]
def w_latin : List Cond := .code y_latin b_latin 1 (some .boolean) :: [.fieldLink "java/lang/String" 38 "java/lang/String" "COMPACT_STRINGS" "Z", .fieldLink "java/lang/String" 15 "java/lang/String" "coder" "B"]
theorem d_coder_0 : decode b_coder 0 = .ok (.getstatic 38, 3) := by decide +kernel
theorem d_coder_3 : decode b_coder 3 = .ok (.ifCond .eq 10, 3) := by decide +kernel
theorem d_coder_6 : decode b_coder 6 = .ok (.aload_n 0, 1) := by decide +kernel
theorem d_coder_7 : decode b_coder 7 = .ok (.getfield 15, 3) := by decide +kernel
theorem d_coder_10 : decode b_coder 10 = .ok (.goto 4, 3) := by decide +kernel
theorem d_coder_14 : decode b_coder 14 = .ok (.ireturn, 1) := by decide +kernel
theorem d_latin_0 : decode b_latin 0 = .ok (.getstatic 38, 3) := by decide +kernel
theorem d_latin_3 : decode b_latin 3 = .ok (.ifCond .eq 14, 3) := by decide +kernel
theorem d_latin_6 : decode b_latin 6 = .ok (.aload_n 0, 1) := by decide +kernel
theorem d_latin_7 : decode b_latin 7 = .ok (.getfield 15, 3) := by decide +kernel
theorem d_latin_10 : decode b_latin 10 = .ok (.ifCond .ne 7, 3) := by decide +kernel
theorem d_latin_13 : decode b_latin 13 = .ok (.iconst 1, 1) := by decide +kernel
theorem d_latin_14 : decode b_latin 14 = .ok (.goto 4, 3) := by decide +kernel
theorem d_latin_18 : decode b_latin 18 = .ok (.ireturn, 1) := by decide +kernel
/-- what these methods read of a text's object -/
def xsO (a : Nat) (U : State) : Prop := va_OF "java/lang/String" "coder" "B" (.int 0) a (fun _ => False) U U.heap ∧ va_Z "java/lang/String" "COMPACT_STRINGS" "Z" (.int 1) (fun _ => False) U U.heap
theorem c_coder (l : Launch) (a : Nat) : Met l y_coder w_coder ({ frames := 0, cells := 0, slots := 0, locals := 0 }) (va_Pc [.ref a] (xsO a)) (va_Qi (fun (r : Int32) (_ : Unit) => r = 0) (fun _ _ => True) (fun _ => False)) 0 0 (fun _ => False) := by
  refine Met.ofW (cc := b_coder) (maxL := 1) (ret := some .byte) (by decide) rfl ?_
  intro p e s m args below meth c s₁ B hml hv
  obtain ⟨rfl, hO, hZ⟩ := hv
  have hx := B.exec
  have hb := B.bytes
  have hr := B.returns
  have hts := atoms_spec (ws := w_coder) B.pre
  have hown : s.vm.findClass "java/lang/String" = some m.cls := findClass_of_methodNamed B.named
  have hlocks := B.notSynchronized
  have hS : va_S (fun _ => False) s.heap s.heap [] := va_S.rf
  have hl := lv_entry ([.ref a]) (n := 1) (Nat.le_of_ble_eq_true rfl)
  rw [lg_entry_eq]
  generalize (lg_sl ([.ref a]) ++ List.replicate (1 - (lg_sl ([.ref a])).length) Slot.unset).toArray = ls at hl ⊢
  have hl : lv_has ls 1 [(0, .ref a)] := hl
  refine va_gets hx hb hZ hS hown (hts (.fieldLink "java/lang/String" 38 "java/lang/String" "COMPACT_STRINGS" "Z") (by decide +kernel)) (fun _ h9 => h9) d_coder_0 ?_
  refine lv_if_eq (tgt := 13) hx hb d_coder_3 rfl (fun h => absurd h (by decide)) (fun _ => ?_)
  refine lv_aload_n hx hb d_coder_6 rfl (lv_at hl 0 rfl) ?_
  refine vk_getf hx hb hO hS hown (hts (.fieldLink "java/lang/String" 15 "java/lang/String" "coder" "B") (by decide +kernel)) (fun _ h9 => h9) d_coder_7 ?_
  refine lv_goto (tgt := 14) hx hb d_coder_10 rfl ?_
  exact W.zret hx hb hr rfl (fun t ht hW => ⟨⟨0, (), rfl, rfl, trivial⟩, hS.F ht⟩) hS.2.2 d_coder_14
theorem c_latin (l : Launch) (a : Nat) : Met l y_latin w_latin ({ frames := 0, cells := 0, slots := 0, locals := 0 }) (va_Pc [.ref a] (xsO a)) (va_Qi (fun (r : Int32) (_ : Unit) => r = 1) (fun _ _ => True) (fun _ => False)) 0 0 (fun _ => False) := by
  refine Met.ofW (cc := b_latin) (maxL := 1) (ret := some .boolean) (by decide) rfl ?_
  intro p e s m args below meth c s₁ B hml hv
  obtain ⟨rfl, hO, hZ⟩ := hv
  have hx := B.exec
  have hb := B.bytes
  have hr := B.returns
  have hts := atoms_spec (ws := w_latin) B.pre
  have hown : s.vm.findClass "java/lang/String" = some m.cls := findClass_of_methodNamed B.named
  have hlocks := B.notSynchronized
  have hS : va_S (fun _ => False) s.heap s.heap [] := va_S.rf
  have hl := lv_entry ([.ref a]) (n := 1) (Nat.le_of_ble_eq_true rfl)
  rw [lg_entry_eq]
  generalize (lg_sl ([.ref a]) ++ List.replicate (1 - (lg_sl ([.ref a])).length) Slot.unset).toArray = ls at hl ⊢
  have hl : lv_has ls 1 [(0, .ref a)] := hl
  refine va_gets hx hb hZ hS hown (hts (.fieldLink "java/lang/String" 38 "java/lang/String" "COMPACT_STRINGS" "Z") (by decide +kernel)) (fun _ h9 => h9) d_latin_0 ?_
  refine lv_if_eq (tgt := 17) hx hb d_latin_3 rfl (fun h => absurd h (by decide)) (fun _ => ?_)
  refine lv_aload_n hx hb d_latin_6 rfl (lv_at hl 0 rfl) ?_
  refine vk_getf hx hb hO hS hown (hts (.fieldLink "java/lang/String" 15 "java/lang/String" "coder" "B") (by decide +kernel)) (fun _ h9 => h9) d_latin_7 ?_
  refine lv_if_ne (tgt := 17) hx hb d_latin_10 rfl (fun h => absurd rfl h) (fun _ => ?_)
  refine lv_iconst hx hb d_latin_13 rfl ?_
  refine lv_goto (tgt := 18) hx hb d_latin_14 rfl ?_
  exact W.zret hx hb hr rfl (fun t ht hW => ⟨⟨1, (), rfl, rfl, trivial⟩, hS.F ht⟩) hS.2.2 d_latin_18
