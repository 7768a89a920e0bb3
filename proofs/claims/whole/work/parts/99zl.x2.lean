abbrev b_prechk : ByteArray := prog_23_method_11_code
def y_prechk : MethodName := ⟨"jdk/internal/util/Preconditions", "checkIndex", "(IILjava/util/function/BiFunction;)I"⟩
def w_prechk : List Cond := .code y_prechk b_prechk 3 (some .int) :: []
theorem d_prechk_0 : decode b_prechk 0 = .ok (.iload_n 0, 1) := by decide +kernel
theorem d_prechk_1 : decode b_prechk 1 = .ok (.ifCond .lt 8, 3) := by decide +kernel
theorem d_prechk_4 : decode b_prechk 4 = .ok (.iload_n 0, 1) := by decide +kernel
theorem d_prechk_5 : decode b_prechk 5 = .ok (.iload_n 1, 1) := by decide +kernel
theorem d_prechk_6 : decode b_prechk 6 = .ok (.if_icmp .lt 10, 3) := by decide +kernel
theorem d_prechk_16 : decode b_prechk 16 = .ok (.iload_n 0, 1) := by decide +kernel
theorem d_prechk_17 : decode b_prechk 17 = .ok (.ireturn, 1) := by decide +kernel
theorem c_prechk (l : Launch) (i n : Int32) (f : Nat) (h0 : ¬ i < 0) (h1 : i < n) : Met l y_prechk w_prechk ({ frames := 0, cells := 0, slots := 0, locals := 0 }) (va_Pc [.int i, .int n, .ref f] (fun _ => True)) (va_Qi (fun (r : Int32) (_ : Unit) => r = i) (fun _ _ => True) (fun _ => False)) 0 0 (fun _ => False) := by
  refine Met.ofW (cc := b_prechk) (maxL := 3) (ret := some .int) (by decide) rfl ?_
  intro p e s m args below meth c s₁ B hml hv
  obtain ⟨rfl, -⟩ := hv
  have hx := B.exec
  have hb := B.bytes
  have hr := B.returns
  have hlocks := B.notSynchronized
  have hS : va_S (fun _ => False) s.heap s.heap [] := va_S.rf
  have hl := lv_entry ([.int i, .int n, .ref f]) (n := 3) (Nat.le_of_ble_eq_true rfl)
  rw [lg_entry_eq]
  generalize (lg_sl ([.int i, .int n, .ref f]) ++ List.replicate (3 - (lg_sl ([.int i, .int n, .ref f])).length) Slot.unset).toArray = ls at hl ⊢
  have hl : lv_has ls 3 [(0, .int i), (1, .int n), (2, .ref f)] := hl
  refine lv_iload_n hx hb d_prechk_0 rfl (lv_at hl 0 rfl) ?_
  refine lv_if_lt (tgt := 9) hx hb d_prechk_1 rfl (fun h => absurd h h0) (fun _ => ?_)
  refine lv_iload_n hx hb d_prechk_4 rfl (lv_at hl 0 rfl) ?_
  refine lv_iload_n hx hb d_prechk_5 rfl (lv_at hl 1 rfl) ?_
  refine lv_icmp_lt (tgt := 16) hx hb d_prechk_6 rfl (fun _ => ?_) (fun h => absurd h1 h)
  refine lv_iload_n hx hb d_prechk_16 rfl (lv_at hl 0 rfl) ?_
  exact W.iret hx hb hr (fun t ht hW => ⟨⟨i, (), rfl, rfl, trivial⟩, hS.F ht⟩) hS.2.2 d_prechk_17
