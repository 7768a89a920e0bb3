/-- the text's object, as it lies ahead of all -/
def xStrD (sz0 : Nat) (H00 : Heap) (a v : Nat) (tx : String) (U : State) : Prop := xsW a v (fun q => sz0 ≤ q) U H00 ∧ vk_R "RueCake$Text" 77 tx a U
theorem xStrD_ok {sz0 : Nat} {H00 : Heap} {a v : Nat} {tx : String} : xStrOk (xStrD sz0 H00 a v tx) :=
  ⟨fun s U hW h => ⟨xsW.moved hW.alike h.1, vk_R.warm hW h.2⟩, fun s U hv h => ⟨xsW.moved (by rw [hv]; exact Vm.Alike.refl _) h.1, vk_R.same hv.symm h.2⟩⟩
theorem xStrD_rows {l : Launch} {sz0 : Nat} {H00 : Heap} {scr : (Int → Int) × Nat} {dC : Nat → ClassId} {dI : Nat → Nat → Nat} {cA : Nat → ClassId} {tk : Nat → Nat} {a v : Nat} {tx : String} (htk : tk 1 = a) : xStrRows l sz0 H00 scr dC dI cA tk (xStrD sz0 H00 a v tx) := by
  intro p e R s mi args below meth cd H locs cells slots Q m arr rest pc hB hC hS hH hsz hcl hsl
  obtain ⟨hx, hb, hml, hown, hts, -⟩ := hB
  have hX := hC.2.2.2.2.2.2.2.2
  have hw : xsW a v xn0 s H := (hX.1.kept (fun q _ hq => hH q (Nat.not_le.mp hq))).narrow (fun _ h => h.elim)
  rw [htk]
  refine ⟨fun h9 hd k => ?_, fun idx hd hf hlo hsum hlk k => ?_, fun idx j hd hf hlo hsum hlk h0 h1 k => ?_⟩
  · have hown2 : s.vm.findClass "RueCake$Text" = some mi.cls := by
      rw [h9] at hown
      exact hown
    exact va_ldcS hx hb hown2 hX.2 hd k
  · have hr1 := va_runV (l := l) (e := e) (below := below) (meth := meth) (H := H) (locs := locs) (cells := cells) (slots := slots) (R := R) (b := a) (As := ([] : List Value)) (rest := rest) (g := F0 mi pc arr (.ref a :: rest)) (C := "java/lang/String") ⟨hx, hb, hml, hown, hts⟩ (c_length l a v) ⟨callB_of 0 hts (sw_good wc_length) rfl rfl rfl (hts _ wi_S) (hts _ hlk) (by decide +kernel) ⟨by show 1 + 1 ≤ R.frames; omega, by show 8 + (1 + 11) + 20 ≤ R.locals; omega⟩, hts _ wn_length, hts _ wl_length⟩ ⟨(x_pre hw).1, x_recv hw, (x_pre hw).2⟩ rfl rfl hsz rfl (lv_room hsum) hd ⟨by omega, by omega⟩
    exact x_calli hr1 k
  · have hr1 := va_runV (l := l) (e := e) (below := below) (meth := meth) (H := H) (locs := locs) (cells := cells) (slots := slots) (R := R) (b := a) (As := [.int (Int32.ofInt j)]) (rest := rest) (g := F0 mi pc arr (.int (Int32.ofInt j) :: .ref a :: rest)) (C := "java/lang/String") ⟨hx, hb, hml, hown, hts⟩ (c_charAt l a v j h0 h1) ⟨callB_of 1 hts (sw_good wc_charAt) rfl rfl rfl (hts _ wi_S) (hts _ hlk) (by decide +kernel) ⟨by show 3 + 1 ≤ R.frames; omega, by show 8 + (2 + 11) + 64 ≤ R.locals; omega⟩, hts _ wn_charAt, hts _ wl_charAt⟩ ⟨(x_pre hw).1, x_recv hw, (x_pre hw).2⟩ rfl rfl hsz rfl (lv_room hsum) hd ⟨by omega, by omega⟩
    exact x_calli hr1 k
