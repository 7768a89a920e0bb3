/-! nothing beyond -/
def gbad (i : Nat) (j : Int) : Prop := 126 ≤ i ∨ j < 0 ∨ 43 ≤ j
def gPb (G : XG) : Prop := (∀ i j, gbad i j → G.1 i j = none) ∧ ∀ i, 126 ≤ i → G.2.1 i = (0, 0)
theorem gPb_new {G : XG} {sh : Nat × Nat} {N : Nat} (h : gPb G) (hn : G.2.2.1 = N) (hN : N < 126) : gPb (xnewG G sh) := by
  unfold xnewG
  rw [hn]
  refine ⟨fun i j hb => ?_, fun i hi => ?_⟩
  · show xsc G.1 N (fun _ => none) i j = none
    by_cases c : i = N
    · subst c; rw [xsc_same]
    · rw [xsc_ne _ _ c]; exact h.1 i j hb
  · show xsc G.2.1 N sh i = (0, 0)
    rw [xsc_ne _ _ (by omega)]; exact h.2 i hi
theorem gPb_wr {G : XG} {c : Nat} {k : Int} {v : Option Nat} (h : gPb G) (hc : c < 126) (hk : 0 ≤ k ∧ k < 43) : gPb ((xwr G.1 c k v, G.2) : XG) := by
  refine ⟨fun i j hb => ?_, fun i hi => h.2 i hi⟩
  show xsc G.1 c (xup (G.1 c) k v) i j = none
  by_cases q : i = c
  · subst q
    rw [xsc_same, xup_ne _ _ (by unfold gbad at hb; omega)]
    exact h.1 i j hb
  · rw [xsc_ne _ _ q]; exact h.1 i j hb
theorem gb_0 {q : ((Int → Int) × Nat)} : gPb (ga_0 q) := ⟨fun _ _ _ => rfl, fun _ _ => rfl⟩
def q00 : ((Int → Int) × Nat) := (fun _ => 0, 0)
theorem gp_0 {q : ((Int → Int) × Nat)} : (ga_0 q).1 = (ga_0 q00).1 := rfl
theorem gp_1 {q : ((Int → Int) × Nat)} : (ga_1 q).1 = (ga_1 q00).1 := congrArg (fun P : XP => xsc P 0 (fun _ => none)) gp_0
theorem gb_1 {q : ((Int → Int) × Nat)} : gPb (ga_1 q) := gPb_new (N := 0) gb_0 rfl (by decide)
theorem gp_2 {q : ((Int → Int) × Nat)} : (ga_2 q).1 = (ga_2 q00).1 := congrArg (fun P : XP => xsc P 1 (fun _ => none)) gp_1
theorem gb_2 {q : ((Int → Int) × Nat)} : gPb (ga_2 q) := gPb_new (N := 1) gb_1 rfl (by decide)
theorem gp_3 {q : ((Int → Int) × Nat)} : (ga_3 q).1 = (ga_3 q00).1 := congrArg (fun P : XP => xsc P 2 (fun _ => none)) gp_2
theorem gb_3 {q : ((Int → Int) × Nat)} : gPb (ga_3 q) := gPb_new (N := 2) gb_2 rfl (by decide)
theorem gp_4 {q : ((Int → Int) × Nat)} : (ga_4 q).1 = (ga_4 q00).1 := congrArg (fun P : XP => xwr P 1 0 (some 2)) gp_3
theorem gb_4 {q : ((Int → Int) × Nat)} : gPb (ga_4 q) := gPb_wr gb_3 (by decide) ⟨by decide, by decide⟩
theorem gp_5 {q : ((Int → Int) × Nat)} : (ga_5 q).1 = (ga_5 q00).1 := congrArg (fun P : XP => xsc P 3 (fun _ => none)) gp_4
theorem gb_5 {q : ((Int → Int) × Nat)} : gPb (ga_5 q) := gPb_new (N := 3) gb_4 rfl (by decide)
theorem gp_6 {q : ((Int → Int) × Nat)} : (ga_6 q).1 = (ga_6 q00).1 := congrArg (fun P : XP => xwr P 1 1 (some 3)) gp_5
theorem gb_6 {q : ((Int → Int) × Nat)} : gPb (ga_6 q) := gPb_wr gb_5 (by decide) ⟨by decide, by decide⟩
theorem gp_7 {q : ((Int → Int) × Nat)} : (ga_7 q).1 = (ga_7 q00).1 := congrArg (fun P : XP => xsc P 4 (fun _ => none)) gp_6
theorem gb_7 {q : ((Int → Int) × Nat)} : gPb (ga_7 q) := gPb_new (N := 4) gb_6 rfl (by decide)
theorem gp_8 {q : ((Int → Int) × Nat)} : (ga_8 q).1 = (ga_8 q00).1 := congrArg (fun P : XP => xwr P 1 2 (some 4)) gp_7
theorem gb_8 {q : ((Int → Int) × Nat)} : gPb (ga_8 q) := gPb_wr gb_7 (by decide) ⟨by decide, by decide⟩
theorem gp_9 {q : ((Int → Int) × Nat)} : (ga_9 q).1 = (ga_9 q00).1 := congrArg (fun P : XP => xsc P 5 (fun _ => none)) gp_8
theorem gb_9 {q : ((Int → Int) × Nat)} : gPb (ga_9 q) := gPb_new (N := 5) gb_8 rfl (by decide)
theorem gp_10 {q : ((Int → Int) × Nat)} : (ga_10 q).1 = (ga_10 q00).1 := congrArg (fun P : XP => xwr P 1 3 (some 5)) gp_9
theorem gb_10 {q : ((Int → Int) × Nat)} : gPb (ga_10 q) := gPb_wr gb_9 (by decide) ⟨by decide, by decide⟩
theorem gp_11 {q : ((Int → Int) × Nat)} : (ga_11 q).1 = (ga_11 q00).1 := congrArg (fun P : XP => xsc P 6 (fun _ => none)) gp_10
theorem gb_11 {q : ((Int → Int) × Nat)} : gPb (ga_11 q) := gPb_new (N := 6) gb_10 rfl (by decide)
theorem gp_12 {q : ((Int → Int) × Nat)} : (ga_12 q).1 = (ga_12 q00).1 := congrArg (fun P : XP => xsc P 7 (fun _ => none)) gp_11
theorem gb_12 {q : ((Int → Int) × Nat)} : gPb (ga_12 q) := gPb_new (N := 7) gb_11 rfl (by decide)
theorem gp_13 {q : ((Int → Int) × Nat)} : (ga_13 q).1 = (ga_13 q00).1 := congrArg (fun P : XP => xwr P 6 5 (some 7)) gp_12
theorem gb_13 {q : ((Int → Int) × Nat)} : gPb (ga_13 q) := gPb_wr gb_12 (by decide) ⟨by decide, by decide⟩
theorem gp_14 {q : ((Int → Int) × Nat)} : (ga_14 q).1 = (ga_14 q00).1 := congrArg (fun P : XP => xsc P 8 (fun _ => none)) gp_13
theorem gb_14 {q : ((Int → Int) × Nat)} : gPb (ga_14 q) := gPb_new (N := 8) gb_13 rfl (by decide)
theorem gp_15 {q : ((Int → Int) × Nat)} : (ga_15 q).1 = (ga_15 q00).1 := congrArg (fun P : XP => xwr P 6 6 (some 8)) gp_14
theorem gb_15 {q : ((Int → Int) × Nat)} : gPb (ga_15 q) := gPb_wr gb_14 (by decide) ⟨by decide, by decide⟩
theorem gp_16 {q : ((Int → Int) × Nat)} : (ga_16 q).1 = (ga_16 q00).1 := congrArg (fun P : XP => xsc P 9 (fun _ => none)) gp_15
theorem gb_16 {q : ((Int → Int) × Nat)} : gPb (ga_16 q) := gPb_new (N := 9) gb_15 rfl (by decide)
theorem gp_17 {q : ((Int → Int) × Nat)} : (ga_17 q).1 = (ga_17 q00).1 := congrArg (fun P : XP => xwr P 6 7 (some 9)) gp_16
theorem gb_17 {q : ((Int → Int) × Nat)} : gPb (ga_17 q) := gPb_wr gb_16 (by decide) ⟨by decide, by decide⟩
theorem gp_18 {q : ((Int → Int) × Nat)} : (ga_18 q).1 = (ga_18 q00).1 := congrArg (fun P : XP => xsc P 10 (fun _ => none)) gp_17
theorem gb_18 {q : ((Int → Int) × Nat)} : gPb (ga_18 q) := gPb_new (N := 10) gb_17 rfl (by decide)
theorem gp_19 {q : ((Int → Int) × Nat)} : (ga_19 q).1 = (ga_19 q00).1 := congrArg (fun P : XP => xsc P 11 (fun _ => none)) gp_18
theorem gb_19 {q : ((Int → Int) × Nat)} : gPb (ga_19 q) := gPb_new (N := 11) gb_18 rfl (by decide)
theorem gp_20 {q : ((Int → Int) × Nat)} : (ga_20 q).1 = (ga_20 q00).1 := congrArg (fun P : XP => xwr P 10 5 (some 11)) gp_19
theorem gb_20 {q : ((Int → Int) × Nat)} : gPb (ga_20 q) := gPb_wr gb_19 (by decide) ⟨by decide, by decide⟩
theorem gp_21 {q : ((Int → Int) × Nat)} : (ga_21 q).1 = (ga_21 q00).1 := congrArg (fun P : XP => xsc P 12 (fun _ => none)) gp_20
theorem gb_21 {q : ((Int → Int) × Nat)} : gPb (ga_21 q) := gPb_new (N := 12) gb_20 rfl (by decide)
theorem gp_22 {q : ((Int → Int) × Nat)} : (ga_22 q).1 = (ga_22 q00).1 := congrArg (fun P : XP => xwr P 10 6 (some 12)) gp_21
theorem gb_22 {q : ((Int → Int) × Nat)} : gPb (ga_22 q) := gPb_wr gb_21 (by decide) ⟨by decide, by decide⟩
theorem gp_23 {q : ((Int → Int) × Nat)} : (ga_23 q).1 = (ga_23 q00).1 := congrArg (fun P : XP => xsc P 13 (fun _ => none)) gp_22
theorem gb_23 {q : ((Int → Int) × Nat)} : gPb (ga_23 q) := gPb_new (N := 13) gb_22 rfl (by decide)
theorem gp_24 {q : ((Int → Int) × Nat)} : (ga_24 q).1 = (ga_24 q00).1 := congrArg (fun P : XP => xwr P 10 7 (some 13)) gp_23
theorem gb_24 {q : ((Int → Int) × Nat)} : gPb (ga_24 q) := gPb_wr gb_23 (by decide) ⟨by decide, by decide⟩
theorem gp_25 {q : ((Int → Int) × Nat)} : (ga_25 q).1 = (ga_25 q00).1 := congrArg (fun P : XP => xsc P 14 (fun _ => none)) gp_24
theorem gb_25 {q : ((Int → Int) × Nat)} : gPb (ga_25 q) := gPb_new (N := 14) gb_24 rfl (by decide)
theorem gp_26 {q : ((Int → Int) × Nat)} : (ga_26 q).1 = (ga_26 q00).1 := congrArg (fun P : XP => xwr P 10 8 (some 14)) gp_25
theorem gb_26 {q : ((Int → Int) × Nat)} : gPb (ga_26 q) := gPb_wr gb_25 (by decide) ⟨by decide, by decide⟩
theorem gp_27 {q : ((Int → Int) × Nat)} : (ga_27 q).1 = (ga_27 q00).1 := congrArg (fun P : XP => xsc P 15 (fun _ => none)) gp_26
theorem gb_27 {q : ((Int → Int) × Nat)} : gPb (ga_27 q) := gPb_new (N := 15) gb_26 rfl (by decide)
theorem gp_28 {q : ((Int → Int) × Nat)} : (ga_28 q).1 = (ga_28 q00).1 := congrArg (fun P : XP => xwr P 10 9 (some 15)) gp_27
theorem gb_28 {q : ((Int → Int) × Nat)} : gPb (ga_28 q) := gPb_wr gb_27 (by decide) ⟨by decide, by decide⟩
theorem gp_29 {q : ((Int → Int) × Nat)} : (ga_29 q).1 = (ga_29 q00).1 := congrArg (fun P : XP => xwr P 6 0 (some 10)) gp_28
theorem gb_29 {q : ((Int → Int) × Nat)} : gPb (ga_29 q) := gPb_wr gb_28 (by decide) ⟨by decide, by decide⟩
theorem gp_30 {q : ((Int → Int) × Nat)} : (ga_30 q).1 = (ga_30 q00).1 := congrArg (fun P : XP => xsc P 16 (fun _ => none)) gp_29
theorem gb_30 {q : ((Int → Int) × Nat)} : gPb (ga_30 q) := gPb_new (N := 16) gb_29 rfl (by decide)
theorem gp_31 {q : ((Int → Int) × Nat)} : (ga_31 q).1 = (ga_31 q00).1 := congrArg (fun P : XP => xsc P 17 (fun _ => none)) gp_30
theorem gb_31 {q : ((Int → Int) × Nat)} : gPb (ga_31 q) := gPb_new (N := 17) gb_30 rfl (by decide)
theorem gp_32 {q : ((Int → Int) × Nat)} : (ga_32 q).1 = (ga_32 q00).1 := congrArg (fun P : XP => xwr P 16 3 (some 17)) gp_31
theorem gb_32 {q : ((Int → Int) × Nat)} : gPb (ga_32 q) := gPb_wr gb_31 (by decide) ⟨by decide, by decide⟩
theorem gp_33 {q : ((Int → Int) × Nat)} : (ga_33 q).1 = (ga_33 q00).1 := congrArg (fun P : XP => xsc P 18 (fun _ => none)) gp_32
theorem gb_33 {q : ((Int → Int) × Nat)} : gPb (ga_33 q) := gPb_new (N := 18) gb_32 rfl (by decide)
theorem gp_34 {q : ((Int → Int) × Nat)} : (ga_34 q).1 = (ga_34 q00).1 := congrArg (fun P : XP => xwr P 16 4 (some 18)) gp_33
theorem gb_34 {q : ((Int → Int) × Nat)} : gPb (ga_34 q) := gPb_wr gb_33 (by decide) ⟨by decide, by decide⟩
theorem gp_35 {q : ((Int → Int) × Nat)} : (ga_35 q).1 = (ga_35 q00).1 := congrArg (fun P : XP => xwr P 16 0 (some 10)) gp_34
theorem gb_35 {q : ((Int → Int) × Nat)} : gPb (ga_35 q) := gPb_wr gb_34 (by decide) ⟨by decide, by decide⟩
theorem gp_36 {q : ((Int → Int) × Nat)} : (ga_36 q).1 = (ga_36 q00).1 := congrArg (fun P : XP => xwr P 6 1 (some 16)) gp_35
theorem gb_36 {q : ((Int → Int) × Nat)} : gPb (ga_36 q) := gPb_wr gb_35 (by decide) ⟨by decide, by decide⟩
theorem gp_37 {q : ((Int → Int) × Nat)} : (ga_37 q).1 = (ga_37 q00).1 := congrArg (fun P : XP => xsc P 19 (fun _ => none)) gp_36
theorem gb_37 {q : ((Int → Int) × Nat)} : gPb (ga_37 q) := gPb_new (N := 19) gb_36 rfl (by decide)
theorem gp_38 {q : ((Int → Int) × Nat)} : (ga_38 q).1 = (ga_38 q00).1 := congrArg (fun P : XP => xsc P 20 (fun _ => none)) gp_37
theorem gb_38 {q : ((Int → Int) × Nat)} : gPb (ga_38 q) := gPb_new (N := 20) gb_37 rfl (by decide)
theorem gp_39 {q : ((Int → Int) × Nat)} : (ga_39 q).1 = (ga_39 q00).1 := congrArg (fun P : XP => xsc P 21 (fun _ => none)) gp_38
theorem gb_39 {q : ((Int → Int) × Nat)} : gPb (ga_39 q) := gPb_new (N := 21) gb_38 rfl (by decide)
theorem gp_40 {q : ((Int → Int) × Nat)} : (ga_40 q).1 = (ga_40 q00).1 := congrArg (fun P : XP => xwr P 20 1 (some 21)) gp_39
theorem gb_40 {q : ((Int → Int) × Nat)} : gPb (ga_40 q) := gPb_wr gb_39 (by decide) ⟨by decide, by decide⟩
theorem gp_41 {q : ((Int → Int) × Nat)} : (ga_41 q).1 = (ga_41 q00).1 := congrArg (fun P : XP => xsc P 22 (fun _ => none)) gp_40
theorem gb_41 {q : ((Int → Int) × Nat)} : gPb (ga_41 q) := gPb_new (N := 22) gb_40 rfl (by decide)
theorem gp_42 {q : ((Int → Int) × Nat)} : (ga_42 q).1 = (ga_42 q00).1 := congrArg (fun P : XP => xwr P 20 2 (some 22)) gp_41
theorem gb_42 {q : ((Int → Int) × Nat)} : gPb (ga_42 q) := gPb_wr gb_41 (by decide) ⟨by decide, by decide⟩
theorem gp_43 {q : ((Int → Int) × Nat)} : (ga_43 q).1 = (ga_43 q00).1 := congrArg (fun P : XP => xwr P 20 0 (some 10)) gp_42
theorem gb_43 {q : ((Int → Int) × Nat)} : gPb (ga_43 q) := gPb_wr gb_42 (by decide) ⟨by decide, by decide⟩
theorem gp_44 {q : ((Int → Int) × Nat)} : (ga_44 q).1 = (ga_44 q00).1 := congrArg (fun P : XP => xsc P 23 (fun _ => none)) gp_43
theorem gb_44 {q : ((Int → Int) × Nat)} : gPb (ga_44 q) := gPb_new (N := 23) gb_43 rfl (by decide)
theorem gp_45 {q : ((Int → Int) × Nat)} : (ga_45 q).1 = (ga_45 q00).1 := congrArg (fun P : XP => xsc P 24 (fun _ => none)) gp_44
theorem gb_45 {q : ((Int → Int) × Nat)} : gPb (ga_45 q) := gPb_new (N := 24) gb_44 rfl (by decide)
theorem gp_46 {q : ((Int → Int) × Nat)} : (ga_46 q).1 = (ga_46 q00).1 := congrArg (fun P : XP => xwr P 23 1 (some 24)) gp_45
theorem gb_46 {q : ((Int → Int) × Nat)} : gPb (ga_46 q) := gPb_wr gb_45 (by decide) ⟨by decide, by decide⟩
theorem gp_47 {q : ((Int → Int) × Nat)} : (ga_47 q).1 = (ga_47 q00).1 := congrArg (fun P : XP => xwr P 23 0 (some 10)) gp_46
theorem gb_47 {q : ((Int → Int) × Nat)} : gPb (ga_47 q) := gPb_wr gb_46 (by decide) ⟨by decide, by decide⟩
theorem gp_48 {q : ((Int → Int) × Nat)} : (ga_48 q).1 = (ga_48 q00).1 := congrArg (fun P : XP => xwr P 0 0 (some 1)) gp_47
theorem gb_48 {q : ((Int → Int) × Nat)} : gPb (ga_48 q) := gPb_wr gb_47 (by decide) ⟨by decide, by decide⟩
theorem gp_49 {q : ((Int → Int) × Nat)} : (ga_49 q).1 = (ga_49 q00).1 := congrArg (fun P : XP => xsc P 25 (fun _ => none)) gp_48
theorem gb_49 {q : ((Int → Int) × Nat)} : gPb (ga_49 q) := gPb_new (N := 25) gb_48 rfl (by decide)
theorem gp_50 {q : ((Int → Int) × Nat)} : (ga_50 q).1 = (ga_50 q00).1 := congrArg (fun P : XP => xsc P 26 (fun _ => none)) gp_49
theorem gb_50 {q : ((Int → Int) × Nat)} : gPb (ga_50 q) := gPb_new (N := 26) gb_49 rfl (by decide)
theorem gp_51 {q : ((Int → Int) × Nat)} : (ga_51 q).1 = (ga_51 q00).1 := congrArg (fun P : XP => xwr P 25 5 (some 26)) gp_50
theorem gb_51 {q : ((Int → Int) × Nat)} : gPb (ga_51 q) := gPb_wr gb_50 (by decide) ⟨by decide, by decide⟩
theorem gp_52 {q : ((Int → Int) × Nat)} : (ga_52 q).1 = (ga_52 q00).1 := congrArg (fun P : XP => xsc P 27 (fun _ => none)) gp_51
theorem gb_52 {q : ((Int → Int) × Nat)} : gPb (ga_52 q) := gPb_new (N := 27) gb_51 rfl (by decide)
theorem gp_53 {q : ((Int → Int) × Nat)} : (ga_53 q).1 = (ga_53 q00).1 := congrArg (fun P : XP => xwr P 25 6 (some 27)) gp_52
theorem gb_53 {q : ((Int → Int) × Nat)} : gPb (ga_53 q) := gPb_wr gb_52 (by decide) ⟨by decide, by decide⟩
theorem gp_54 {q : ((Int → Int) × Nat)} : (ga_54 q).1 = (ga_54 q00).1 := congrArg (fun P : XP => xsc P 28 (fun _ => none)) gp_53
theorem gb_54 {q : ((Int → Int) × Nat)} : gPb (ga_54 q) := gPb_new (N := 28) gb_53 rfl (by decide)
theorem gp_55 {q : ((Int → Int) × Nat)} : (ga_55 q).1 = (ga_55 q00).1 := congrArg (fun P : XP => xwr P 25 7 (some 28)) gp_54
theorem gb_55 {q : ((Int → Int) × Nat)} : gPb (ga_55 q) := gPb_wr gb_54 (by decide) ⟨by decide, by decide⟩
theorem gp_56 {q : ((Int → Int) × Nat)} : (ga_56 q).1 = (ga_56 q00).1 := congrArg (fun P : XP => xsc P 29 (fun _ => none)) gp_55
theorem gb_56 {q : ((Int → Int) × Nat)} : gPb (ga_56 q) := gPb_new (N := 29) gb_55 rfl (by decide)
theorem gp_57 {q : ((Int → Int) × Nat)} : (ga_57 q).1 = (ga_57 q00).1 := congrArg (fun P : XP => xwr P 25 8 (some 29)) gp_56
theorem gb_57 {q : ((Int → Int) × Nat)} : gPb (ga_57 q) := gPb_wr gb_56 (by decide) ⟨by decide, by decide⟩
theorem gp_58 {q : ((Int → Int) × Nat)} : (ga_58 q).1 = (ga_58 q00).1 := congrArg (fun P : XP => xsc P 30 (fun _ => none)) gp_57
theorem gb_58 {q : ((Int → Int) × Nat)} : gPb (ga_58 q) := gPb_new (N := 30) gb_57 rfl (by decide)
theorem gp_59 {q : ((Int → Int) × Nat)} : (ga_59 q).1 = (ga_59 q00).1 := congrArg (fun P : XP => xwr P 25 9 (some 30)) gp_58
theorem gb_59 {q : ((Int → Int) × Nat)} : gPb (ga_59 q) := gPb_wr gb_58 (by decide) ⟨by decide, by decide⟩
theorem gp_60 {q : ((Int → Int) × Nat)} : (ga_60 q).1 = (ga_60 q00).1 := congrArg (fun P : XP => xwr P 0 1 (some 25)) gp_59
theorem gb_60 {q : ((Int → Int) × Nat)} : gPb (ga_60 q) := gPb_wr gb_59 (by decide) ⟨by decide, by decide⟩
theorem gp_61 {q : ((Int → Int) × Nat)} : (ga_61 q).1 = (ga_61 q00).1 := congrArg (fun P : XP => xsc P 31 (fun _ => none)) gp_60
theorem gb_61 {q : ((Int → Int) × Nat)} : gPb (ga_61 q) := gPb_new (N := 31) gb_60 rfl (by decide)
theorem gp_62 {q : ((Int → Int) × Nat)} : (ga_62 q).1 = (ga_62 q00).1 := congrArg (fun P : XP => xsc P 32 (fun _ => none)) gp_61
theorem gb_62 {q : ((Int → Int) × Nat)} : gPb (ga_62 q) := gPb_new (N := 32) gb_61 rfl (by decide)
theorem gp_63 {q : ((Int → Int) × Nat)} : (ga_63 q).1 = (ga_63 q00).1 := congrArg (fun P : XP => xwr P 31 1 (some 32)) gp_62
theorem gb_63 {q : ((Int → Int) × Nat)} : gPb (ga_63 q) := gPb_wr gb_62 (by decide) ⟨by decide, by decide⟩
theorem gp_64 {q : ((Int → Int) × Nat)} : (ga_64 q).1 = (ga_64 q00).1 := congrArg (fun P : XP => xsc P 33 (fun _ => none)) gp_63
theorem gb_64 {q : ((Int → Int) × Nat)} : gPb (ga_64 q) := gPb_new (N := 33) gb_63 rfl (by decide)
theorem gp_65 {q : ((Int → Int) × Nat)} : (ga_65 q).1 = (ga_65 q00).1 := congrArg (fun P : XP => xwr P 31 2 (some 33)) gp_64
theorem gb_65 {q : ((Int → Int) × Nat)} : gPb (ga_65 q) := gPb_wr gb_64 (by decide) ⟨by decide, by decide⟩
theorem gp_66 {q : ((Int → Int) × Nat)} : (ga_66 q).1 = (ga_66 q00).1 := congrArg (fun P : XP => xwr P 31 0 (some 1)) gp_65
theorem gb_66 {q : ((Int → Int) × Nat)} : gPb (ga_66 q) := gPb_wr gb_65 (by decide) ⟨by decide, by decide⟩
theorem gp_67 {q : ((Int → Int) × Nat)} : (ga_67 q).1 = (ga_67 q00).1 := congrArg (fun P : XP => xwr P 0 2 (some 31)) gp_66
theorem gb_67 {q : ((Int → Int) × Nat)} : gPb (ga_67 q) := gPb_wr gb_66 (by decide) ⟨by decide, by decide⟩
theorem gp_68 {q : ((Int → Int) × Nat)} : (ga_68 q).1 = (ga_68 q00).1 := congrArg (fun P : XP => xwr P 0 3 (some 19)) gp_67
theorem gb_68 {q : ((Int → Int) × Nat)} : gPb (ga_68 q) := gPb_wr gb_67 (by decide) ⟨by decide, by decide⟩
theorem gp_69 {q : ((Int → Int) × Nat)} : (ga_69 q).1 = (ga_69 q00).1 := congrArg (fun P : XP => xwr P 0 5 (some 6)) gp_68
theorem gb_69 {q : ((Int → Int) × Nat)} : gPb (ga_69 q) := gPb_wr gb_68 (by decide) ⟨by decide, by decide⟩
theorem gp_70 {q : ((Int → Int) × Nat)} : (ga_70 q).1 = (ga_70 q00).1 := congrArg (fun P : XP => xsc P 34 (fun _ => none)) gp_69
theorem gb_70 {q : ((Int → Int) × Nat)} : gPb (ga_70 q) := gPb_new (N := 34) gb_69 rfl (by decide)
theorem gp_71 {q : ((Int → Int) × Nat)} : (ga_71 q).1 = (ga_71 q00).1 := congrArg (fun P : XP => xwr P 0 6 (some 34)) gp_70
theorem gb_71 {q : ((Int → Int) × Nat)} : gPb (ga_71 q) := gPb_wr gb_70 (by decide) ⟨by decide, by decide⟩
theorem gp_72 {q : ((Int → Int) × Nat)} : (ga_72 q).1 = (ga_72 q00).1 := congrArg (fun P : XP => xsc P 35 (fun _ => none)) gp_71
theorem gb_72 {q : ((Int → Int) × Nat)} : gPb (ga_72 q) := gPb_new (N := 35) gb_71 rfl (by decide)
theorem gp_73 {q : ((Int → Int) × Nat)} : (ga_73 q).1 = (ga_73 q00).1 := congrArg (fun P : XP => xsc P 36 (fun _ => none)) gp_72
theorem gb_73 {q : ((Int → Int) × Nat)} : gPb (ga_73 q) := gPb_new (N := 36) gb_72 rfl (by decide)
theorem gp_74 {q : ((Int → Int) × Nat)} : (ga_74 q).1 = (ga_74 q00).1 := congrArg (fun P : XP => xwr P 35 5 (some 36)) gp_73
theorem gb_74 {q : ((Int → Int) × Nat)} : gPb (ga_74 q) := gPb_wr gb_73 (by decide) ⟨by decide, by decide⟩
theorem gp_75 {q : ((Int → Int) × Nat)} : (ga_75 q).1 = (ga_75 q00).1 := congrArg (fun P : XP => xsc P 37 (fun _ => none)) gp_74
theorem gb_75 {q : ((Int → Int) × Nat)} : gPb (ga_75 q) := gPb_new (N := 37) gb_74 rfl (by decide)
theorem gp_76 {q : ((Int → Int) × Nat)} : (ga_76 q).1 = (ga_76 q00).1 := congrArg (fun P : XP => xwr P 35 6 (some 37)) gp_75
theorem gb_76 {q : ((Int → Int) × Nat)} : gPb (ga_76 q) := gPb_wr gb_75 (by decide) ⟨by decide, by decide⟩
theorem gp_77 {q : ((Int → Int) × Nat)} : (ga_77 q).1 = (ga_77 q00).1 := congrArg (fun P : XP => xsc P 38 (fun _ => none)) gp_76
theorem gb_77 {q : ((Int → Int) × Nat)} : gPb (ga_77 q) := gPb_new (N := 38) gb_76 rfl (by decide)
theorem gp_78 {q : ((Int → Int) × Nat)} : (ga_78 q).1 = (ga_78 q00).1 := congrArg (fun P : XP => xwr P 35 7 (some 38)) gp_77
theorem gb_78 {q : ((Int → Int) × Nat)} : gPb (ga_78 q) := gPb_wr gb_77 (by decide) ⟨by decide, by decide⟩
theorem gp_79 {q : ((Int → Int) × Nat)} : (ga_79 q).1 = (ga_79 q00).1 := congrArg (fun P : XP => xsc P 39 (fun _ => none)) gp_78
theorem gb_79 {q : ((Int → Int) × Nat)} : gPb (ga_79 q) := gPb_new (N := 39) gb_78 rfl (by decide)
theorem gp_80 {q : ((Int → Int) × Nat)} : (ga_80 q).1 = (ga_80 q00).1 := congrArg (fun P : XP => xsc P 40 (fun _ => none)) gp_79
theorem gb_80 {q : ((Int → Int) × Nat)} : gPb (ga_80 q) := gPb_new (N := 40) gb_79 rfl (by decide)
theorem gp_81 {q : ((Int → Int) × Nat)} : (ga_81 q).1 = (ga_81 q00).1 := congrArg (fun P : XP => xwr P 39 5 (some 40)) gp_80
theorem gb_81 {q : ((Int → Int) × Nat)} : gPb (ga_81 q) := gPb_wr gb_80 (by decide) ⟨by decide, by decide⟩
theorem gp_82 {q : ((Int → Int) × Nat)} : (ga_82 q).1 = (ga_82 q00).1 := congrArg (fun P : XP => xsc P 41 (fun _ => none)) gp_81
theorem gb_82 {q : ((Int → Int) × Nat)} : gPb (ga_82 q) := gPb_new (N := 41) gb_81 rfl (by decide)
theorem gp_83 {q : ((Int → Int) × Nat)} : (ga_83 q).1 = (ga_83 q00).1 := congrArg (fun P : XP => xwr P 39 6 (some 41)) gp_82
theorem gb_83 {q : ((Int → Int) × Nat)} : gPb (ga_83 q) := gPb_wr gb_82 (by decide) ⟨by decide, by decide⟩
theorem gp_84 {q : ((Int → Int) × Nat)} : (ga_84 q).1 = (ga_84 q00).1 := congrArg (fun P : XP => xsc P 42 (fun _ => none)) gp_83
theorem gb_84 {q : ((Int → Int) × Nat)} : gPb (ga_84 q) := gPb_new (N := 42) gb_83 rfl (by decide)
theorem gp_85 {q : ((Int → Int) × Nat)} : (ga_85 q).1 = (ga_85 q00).1 := congrArg (fun P : XP => xwr P 39 7 (some 42)) gp_84
theorem gb_85 {q : ((Int → Int) × Nat)} : gPb (ga_85 q) := gPb_wr gb_84 (by decide) ⟨by decide, by decide⟩
theorem gp_86 {q : ((Int → Int) × Nat)} : (ga_86 q).1 = (ga_86 q00).1 := congrArg (fun P : XP => xsc P 43 (fun _ => none)) gp_85
theorem gb_86 {q : ((Int → Int) × Nat)} : gPb (ga_86 q) := gPb_new (N := 43) gb_85 rfl (by decide)
theorem gp_87 {q : ((Int → Int) × Nat)} : (ga_87 q).1 = (ga_87 q00).1 := congrArg (fun P : XP => xwr P 39 8 (some 43)) gp_86
theorem gb_87 {q : ((Int → Int) × Nat)} : gPb (ga_87 q) := gPb_wr gb_86 (by decide) ⟨by decide, by decide⟩
theorem gp_88 {q : ((Int → Int) × Nat)} : (ga_88 q).1 = (ga_88 q00).1 := congrArg (fun P : XP => xsc P 44 (fun _ => none)) gp_87
theorem gb_88 {q : ((Int → Int) × Nat)} : gPb (ga_88 q) := gPb_new (N := 44) gb_87 rfl (by decide)
theorem gp_89 {q : ((Int → Int) × Nat)} : (ga_89 q).1 = (ga_89 q00).1 := congrArg (fun P : XP => xwr P 39 9 (some 44)) gp_88
theorem gb_89 {q : ((Int → Int) × Nat)} : gPb (ga_89 q) := gPb_wr gb_88 (by decide) ⟨by decide, by decide⟩
theorem gp_90 {q : ((Int → Int) × Nat)} : (ga_90 q).1 = (ga_90 q00).1 := congrArg (fun P : XP => xwr P 35 0 (some 39)) gp_89
theorem gb_90 {q : ((Int → Int) × Nat)} : gPb (ga_90 q) := gPb_wr gb_89 (by decide) ⟨by decide, by decide⟩
theorem gp_91 {q : ((Int → Int) × Nat)} : (ga_91 q).1 = (ga_91 q00).1 := congrArg (fun P : XP => xsc P 45 (fun _ => none)) gp_90
theorem gb_91 {q : ((Int → Int) × Nat)} : gPb (ga_91 q) := gPb_new (N := 45) gb_90 rfl (by decide)
theorem gp_92 {q : ((Int → Int) × Nat)} : (ga_92 q).1 = (ga_92 q00).1 := congrArg (fun P : XP => xsc P 46 (fun _ => none)) gp_91
theorem gb_92 {q : ((Int → Int) × Nat)} : gPb (ga_92 q) := gPb_new (N := 46) gb_91 rfl (by decide)
theorem gp_93 {q : ((Int → Int) × Nat)} : (ga_93 q).1 = (ga_93 q00).1 := congrArg (fun P : XP => xwr P 45 3 (some 46)) gp_92
theorem gb_93 {q : ((Int → Int) × Nat)} : gPb (ga_93 q) := gPb_wr gb_92 (by decide) ⟨by decide, by decide⟩
theorem gp_94 {q : ((Int → Int) × Nat)} : (ga_94 q).1 = (ga_94 q00).1 := congrArg (fun P : XP => xsc P 47 (fun _ => none)) gp_93
theorem gb_94 {q : ((Int → Int) × Nat)} : gPb (ga_94 q) := gPb_new (N := 47) gb_93 rfl (by decide)
theorem gp_95 {q : ((Int → Int) × Nat)} : (ga_95 q).1 = (ga_95 q00).1 := congrArg (fun P : XP => xwr P 45 4 (some 47)) gp_94
theorem gb_95 {q : ((Int → Int) × Nat)} : gPb (ga_95 q) := gPb_wr gb_94 (by decide) ⟨by decide, by decide⟩
theorem gp_96 {q : ((Int → Int) × Nat)} : (ga_96 q).1 = (ga_96 q00).1 := congrArg (fun P : XP => xwr P 45 0 (some 39)) gp_95
theorem gb_96 {q : ((Int → Int) × Nat)} : gPb (ga_96 q) := gPb_wr gb_95 (by decide) ⟨by decide, by decide⟩
theorem gp_97 {q : ((Int → Int) × Nat)} : (ga_97 q).1 = (ga_97 q00).1 := congrArg (fun P : XP => xwr P 35 1 (some 45)) gp_96
theorem gb_97 {q : ((Int → Int) × Nat)} : gPb (ga_97 q) := gPb_wr gb_96 (by decide) ⟨by decide, by decide⟩
theorem gp_98 {q : ((Int → Int) × Nat)} : (ga_98 q).1 = (ga_98 q00).1 := congrArg (fun P : XP => xwr P 34 0 (some 35)) gp_97
theorem gb_98 {q : ((Int → Int) × Nat)} : gPb (ga_98 q) := gPb_wr gb_97 (by decide) ⟨by decide, by decide⟩
theorem gp_99 {q : ((Int → Int) × Nat)} : (ga_99 q).1 = (ga_99 q00).1 := congrArg (fun P : XP => xsc P 48 (fun _ => none)) gp_98
theorem gb_99 {q : ((Int → Int) × Nat)} : gPb (ga_99 q) := gPb_new (N := 48) gb_98 rfl (by decide)
theorem gp_100 {q : ((Int → Int) × Nat)} : (ga_100 q).1 = (ga_100 q00).1 := congrArg (fun P : XP => xsc P 49 (fun _ => none)) gp_99
theorem gb_100 {q : ((Int → Int) × Nat)} : gPb (ga_100 q) := gPb_new (N := 49) gb_99 rfl (by decide)
theorem gp_101 {q : ((Int → Int) × Nat)} : (ga_101 q).1 = (ga_101 q00).1 := congrArg (fun P : XP => xwr P 48 5 (some 49)) gp_100
theorem gb_101 {q : ((Int → Int) × Nat)} : gPb (ga_101 q) := gPb_wr gb_100 (by decide) ⟨by decide, by decide⟩
theorem gp_102 {q : ((Int → Int) × Nat)} : (ga_102 q).1 = (ga_102 q00).1 := congrArg (fun P : XP => xsc P 50 (fun _ => none)) gp_101
theorem gb_102 {q : ((Int → Int) × Nat)} : gPb (ga_102 q) := gPb_new (N := 50) gb_101 rfl (by decide)
theorem gp_103 {q : ((Int → Int) × Nat)} : (ga_103 q).1 = (ga_103 q00).1 := congrArg (fun P : XP => xwr P 48 6 (some 50)) gp_102
theorem gb_103 {q : ((Int → Int) × Nat)} : gPb (ga_103 q) := gPb_wr gb_102 (by decide) ⟨by decide, by decide⟩
theorem gp_104 {q : ((Int → Int) × Nat)} : (ga_104 q).1 = (ga_104 q00).1 := congrArg (fun P : XP => xsc P 51 (fun _ => none)) gp_103
theorem gb_104 {q : ((Int → Int) × Nat)} : gPb (ga_104 q) := gPb_new (N := 51) gb_103 rfl (by decide)
theorem gp_105 {q : ((Int → Int) × Nat)} : (ga_105 q).1 = (ga_105 q00).1 := congrArg (fun P : XP => xwr P 48 7 (some 51)) gp_104
theorem gb_105 {q : ((Int → Int) × Nat)} : gPb (ga_105 q) := gPb_wr gb_104 (by decide) ⟨by decide, by decide⟩
theorem gp_106 {q : ((Int → Int) × Nat)} : (ga_106 q).1 = (ga_106 q00).1 := congrArg (fun P : XP => xsc P 52 (fun _ => none)) gp_105
theorem gb_106 {q : ((Int → Int) × Nat)} : gPb (ga_106 q) := gPb_new (N := 52) gb_105 rfl (by decide)
theorem gp_107 {q : ((Int → Int) × Nat)} : (ga_107 q).1 = (ga_107 q00).1 := congrArg (fun P : XP => xsc P 53 (fun _ => none)) gp_106
theorem gb_107 {q : ((Int → Int) × Nat)} : gPb (ga_107 q) := gPb_new (N := 53) gb_106 rfl (by decide)
theorem gp_108 {q : ((Int → Int) × Nat)} : (ga_108 q).1 = (ga_108 q00).1 := congrArg (fun P : XP => xwr P 52 5 (some 53)) gp_107
theorem gb_108 {q : ((Int → Int) × Nat)} : gPb (ga_108 q) := gPb_wr gb_107 (by decide) ⟨by decide, by decide⟩
theorem gp_109 {q : ((Int → Int) × Nat)} : (ga_109 q).1 = (ga_109 q00).1 := congrArg (fun P : XP => xsc P 54 (fun _ => none)) gp_108
theorem gb_109 {q : ((Int → Int) × Nat)} : gPb (ga_109 q) := gPb_new (N := 54) gb_108 rfl (by decide)
theorem gp_110 {q : ((Int → Int) × Nat)} : (ga_110 q).1 = (ga_110 q00).1 := congrArg (fun P : XP => xwr P 52 6 (some 54)) gp_109
theorem gb_110 {q : ((Int → Int) × Nat)} : gPb (ga_110 q) := gPb_wr gb_109 (by decide) ⟨by decide, by decide⟩
theorem gp_111 {q : ((Int → Int) × Nat)} : (ga_111 q).1 = (ga_111 q00).1 := congrArg (fun P : XP => xsc P 55 (fun _ => none)) gp_110
theorem gb_111 {q : ((Int → Int) × Nat)} : gPb (ga_111 q) := gPb_new (N := 55) gb_110 rfl (by decide)
theorem gp_112 {q : ((Int → Int) × Nat)} : (ga_112 q).1 = (ga_112 q00).1 := congrArg (fun P : XP => xwr P 52 7 (some 55)) gp_111
theorem gb_112 {q : ((Int → Int) × Nat)} : gPb (ga_112 q) := gPb_wr gb_111 (by decide) ⟨by decide, by decide⟩
theorem gp_113 {q : ((Int → Int) × Nat)} : (ga_113 q).1 = (ga_113 q00).1 := congrArg (fun P : XP => xsc P 56 (fun _ => none)) gp_112
theorem gb_113 {q : ((Int → Int) × Nat)} : gPb (ga_113 q) := gPb_new (N := 56) gb_112 rfl (by decide)
theorem gp_114 {q : ((Int → Int) × Nat)} : (ga_114 q).1 = (ga_114 q00).1 := congrArg (fun P : XP => xwr P 52 8 (some 56)) gp_113
theorem gb_114 {q : ((Int → Int) × Nat)} : gPb (ga_114 q) := gPb_wr gb_113 (by decide) ⟨by decide, by decide⟩
theorem gp_115 {q : ((Int → Int) × Nat)} : (ga_115 q).1 = (ga_115 q00).1 := congrArg (fun P : XP => xsc P 57 (fun _ => none)) gp_114
theorem gb_115 {q : ((Int → Int) × Nat)} : gPb (ga_115 q) := gPb_new (N := 57) gb_114 rfl (by decide)
theorem gp_116 {q : ((Int → Int) × Nat)} : (ga_116 q).1 = (ga_116 q00).1 := congrArg (fun P : XP => xwr P 52 9 (some 57)) gp_115
theorem gb_116 {q : ((Int → Int) × Nat)} : gPb (ga_116 q) := gPb_wr gb_115 (by decide) ⟨by decide, by decide⟩
theorem gp_117 {q : ((Int → Int) × Nat)} : (ga_117 q).1 = (ga_117 q00).1 := congrArg (fun P : XP => xwr P 48 0 (some 52)) gp_116
theorem gb_117 {q : ((Int → Int) × Nat)} : gPb (ga_117 q) := gPb_wr gb_116 (by decide) ⟨by decide, by decide⟩
theorem gp_118 {q : ((Int → Int) × Nat)} : (ga_118 q).1 = (ga_118 q00).1 := congrArg (fun P : XP => xsc P 58 (fun _ => none)) gp_117
theorem gb_118 {q : ((Int → Int) × Nat)} : gPb (ga_118 q) := gPb_new (N := 58) gb_117 rfl (by decide)
theorem gp_119 {q : ((Int → Int) × Nat)} : (ga_119 q).1 = (ga_119 q00).1 := congrArg (fun P : XP => xsc P 59 (fun _ => none)) gp_118
theorem gb_119 {q : ((Int → Int) × Nat)} : gPb (ga_119 q) := gPb_new (N := 59) gb_118 rfl (by decide)
theorem gp_120 {q : ((Int → Int) × Nat)} : (ga_120 q).1 = (ga_120 q00).1 := congrArg (fun P : XP => xwr P 58 3 (some 59)) gp_119
theorem gb_120 {q : ((Int → Int) × Nat)} : gPb (ga_120 q) := gPb_wr gb_119 (by decide) ⟨by decide, by decide⟩
theorem gp_121 {q : ((Int → Int) × Nat)} : (ga_121 q).1 = (ga_121 q00).1 := congrArg (fun P : XP => xsc P 60 (fun _ => none)) gp_120
theorem gb_121 {q : ((Int → Int) × Nat)} : gPb (ga_121 q) := gPb_new (N := 60) gb_120 rfl (by decide)
theorem gp_122 {q : ((Int → Int) × Nat)} : (ga_122 q).1 = (ga_122 q00).1 := congrArg (fun P : XP => xwr P 58 4 (some 60)) gp_121
theorem gb_122 {q : ((Int → Int) × Nat)} : gPb (ga_122 q) := gPb_wr gb_121 (by decide) ⟨by decide, by decide⟩
theorem gp_123 {q : ((Int → Int) × Nat)} : (ga_123 q).1 = (ga_123 q00).1 := congrArg (fun P : XP => xwr P 58 0 (some 52)) gp_122
theorem gb_123 {q : ((Int → Int) × Nat)} : gPb (ga_123 q) := gPb_wr gb_122 (by decide) ⟨by decide, by decide⟩
theorem gp_124 {q : ((Int → Int) × Nat)} : (ga_124 q).1 = (ga_124 q00).1 := congrArg (fun P : XP => xwr P 48 1 (some 58)) gp_123
theorem gb_124 {q : ((Int → Int) × Nat)} : gPb (ga_124 q) := gPb_wr gb_123 (by decide) ⟨by decide, by decide⟩
theorem gp_125 {q : ((Int → Int) × Nat)} : (ga_125 q).1 = (ga_125 q00).1 := congrArg (fun P : XP => xwr P 34 1 (some 48)) gp_124
theorem gb_125 {q : ((Int → Int) × Nat)} : gPb (ga_125 q) := gPb_wr gb_124 (by decide) ⟨by decide, by decide⟩
theorem gp_126 {q : ((Int → Int) × Nat)} : (ga_126 q).1 = (ga_126 q00).1 := congrArg (fun P : XP => xsc P 61 (fun _ => none)) gp_125
theorem gb_126 {q : ((Int → Int) × Nat)} : gPb (ga_126 q) := gPb_new (N := 61) gb_125 rfl (by decide)
theorem gp_127 {q : ((Int → Int) × Nat)} : (ga_127 q).1 = (ga_127 q00).1 := congrArg (fun P : XP => xsc P 62 (fun _ => none)) gp_126
theorem gb_127 {q : ((Int → Int) × Nat)} : gPb (ga_127 q) := gPb_new (N := 62) gb_126 rfl (by decide)
theorem gp_128 {q : ((Int → Int) × Nat)} : (ga_128 q).1 = (ga_128 q00).1 := congrArg (fun P : XP => xwr P 61 5 (some 62)) gp_127
theorem gb_128 {q : ((Int → Int) × Nat)} : gPb (ga_128 q) := gPb_wr gb_127 (by decide) ⟨by decide, by decide⟩
theorem gp_129 {q : ((Int → Int) × Nat)} : (ga_129 q).1 = (ga_129 q00).1 := congrArg (fun P : XP => xsc P 63 (fun _ => none)) gp_128
theorem gb_129 {q : ((Int → Int) × Nat)} : gPb (ga_129 q) := gPb_new (N := 63) gb_128 rfl (by decide)
theorem gp_130 {q : ((Int → Int) × Nat)} : (ga_130 q).1 = (ga_130 q00).1 := congrArg (fun P : XP => xwr P 61 6 (some 63)) gp_129
theorem gb_130 {q : ((Int → Int) × Nat)} : gPb (ga_130 q) := gPb_wr gb_129 (by decide) ⟨by decide, by decide⟩
theorem gp_131 {q : ((Int → Int) × Nat)} : (ga_131 q).1 = (ga_131 q00).1 := congrArg (fun P : XP => xsc P 64 (fun _ => none)) gp_130
theorem gb_131 {q : ((Int → Int) × Nat)} : gPb (ga_131 q) := gPb_new (N := 64) gb_130 rfl (by decide)
theorem gp_132 {q : ((Int → Int) × Nat)} : (ga_132 q).1 = (ga_132 q00).1 := congrArg (fun P : XP => xwr P 61 7 (some 64)) gp_131
theorem gb_132 {q : ((Int → Int) × Nat)} : gPb (ga_132 q) := gPb_wr gb_131 (by decide) ⟨by decide, by decide⟩
theorem gp_133 {q : ((Int → Int) × Nat)} : (ga_133 q).1 = (ga_133 q00).1 := congrArg (fun P : XP => xsc P 65 (fun _ => none)) gp_132
theorem gb_133 {q : ((Int → Int) × Nat)} : gPb (ga_133 q) := gPb_new (N := 65) gb_132 rfl (by decide)
theorem gp_134 {q : ((Int → Int) × Nat)} : (ga_134 q).1 = (ga_134 q00).1 := congrArg (fun P : XP => xsc P 66 (fun _ => none)) gp_133
theorem gb_134 {q : ((Int → Int) × Nat)} : gPb (ga_134 q) := gPb_new (N := 66) gb_133 rfl (by decide)
theorem gp_135 {q : ((Int → Int) × Nat)} : (ga_135 q).1 = (ga_135 q00).1 := congrArg (fun P : XP => xwr P 65 5 (some 66)) gp_134
theorem gb_135 {q : ((Int → Int) × Nat)} : gPb (ga_135 q) := gPb_wr gb_134 (by decide) ⟨by decide, by decide⟩
theorem gp_136 {q : ((Int → Int) × Nat)} : (ga_136 q).1 = (ga_136 q00).1 := congrArg (fun P : XP => xsc P 67 (fun _ => none)) gp_135
theorem gb_136 {q : ((Int → Int) × Nat)} : gPb (ga_136 q) := gPb_new (N := 67) gb_135 rfl (by decide)
theorem gp_137 {q : ((Int → Int) × Nat)} : (ga_137 q).1 = (ga_137 q00).1 := congrArg (fun P : XP => xwr P 65 6 (some 67)) gp_136
theorem gb_137 {q : ((Int → Int) × Nat)} : gPb (ga_137 q) := gPb_wr gb_136 (by decide) ⟨by decide, by decide⟩
theorem gp_138 {q : ((Int → Int) × Nat)} : (ga_138 q).1 = (ga_138 q00).1 := congrArg (fun P : XP => xsc P 68 (fun _ => none)) gp_137
theorem gb_138 {q : ((Int → Int) × Nat)} : gPb (ga_138 q) := gPb_new (N := 68) gb_137 rfl (by decide)
theorem gp_139 {q : ((Int → Int) × Nat)} : (ga_139 q).1 = (ga_139 q00).1 := congrArg (fun P : XP => xwr P 65 7 (some 68)) gp_138
theorem gb_139 {q : ((Int → Int) × Nat)} : gPb (ga_139 q) := gPb_wr gb_138 (by decide) ⟨by decide, by decide⟩
theorem gp_140 {q : ((Int → Int) × Nat)} : (ga_140 q).1 = (ga_140 q00).1 := congrArg (fun P : XP => xsc P 69 (fun _ => none)) gp_139
theorem gb_140 {q : ((Int → Int) × Nat)} : gPb (ga_140 q) := gPb_new (N := 69) gb_139 rfl (by decide)
theorem gp_141 {q : ((Int → Int) × Nat)} : (ga_141 q).1 = (ga_141 q00).1 := congrArg (fun P : XP => xwr P 65 8 (some 69)) gp_140
theorem gb_141 {q : ((Int → Int) × Nat)} : gPb (ga_141 q) := gPb_wr gb_140 (by decide) ⟨by decide, by decide⟩
theorem gp_142 {q : ((Int → Int) × Nat)} : (ga_142 q).1 = (ga_142 q00).1 := congrArg (fun P : XP => xsc P 70 (fun _ => none)) gp_141
theorem gb_142 {q : ((Int → Int) × Nat)} : gPb (ga_142 q) := gPb_new (N := 70) gb_141 rfl (by decide)
theorem gp_143 {q : ((Int → Int) × Nat)} : (ga_143 q).1 = (ga_143 q00).1 := congrArg (fun P : XP => xwr P 65 9 (some 70)) gp_142
theorem gb_143 {q : ((Int → Int) × Nat)} : gPb (ga_143 q) := gPb_wr gb_142 (by decide) ⟨by decide, by decide⟩
theorem gp_144 {q : ((Int → Int) × Nat)} : (ga_144 q).1 = (ga_144 q00).1 := congrArg (fun P : XP => xwr P 61 0 (some 65)) gp_143
theorem gb_144 {q : ((Int → Int) × Nat)} : gPb (ga_144 q) := gPb_wr gb_143 (by decide) ⟨by decide, by decide⟩
theorem gp_145 {q : ((Int → Int) × Nat)} : (ga_145 q).1 = (ga_145 q00).1 := congrArg (fun P : XP => xsc P 71 (fun _ => none)) gp_144
theorem gb_145 {q : ((Int → Int) × Nat)} : gPb (ga_145 q) := gPb_new (N := 71) gb_144 rfl (by decide)
theorem gp_146 {q : ((Int → Int) × Nat)} : (ga_146 q).1 = (ga_146 q00).1 := congrArg (fun P : XP => xsc P 72 (fun _ => none)) gp_145
theorem gb_146 {q : ((Int → Int) × Nat)} : gPb (ga_146 q) := gPb_new (N := 72) gb_145 rfl (by decide)
theorem gp_147 {q : ((Int → Int) × Nat)} : (ga_147 q).1 = (ga_147 q00).1 := congrArg (fun P : XP => xwr P 71 3 (some 72)) gp_146
theorem gb_147 {q : ((Int → Int) × Nat)} : gPb (ga_147 q) := gPb_wr gb_146 (by decide) ⟨by decide, by decide⟩
theorem gp_148 {q : ((Int → Int) × Nat)} : (ga_148 q).1 = (ga_148 q00).1 := congrArg (fun P : XP => xsc P 73 (fun _ => none)) gp_147
theorem gb_148 {q : ((Int → Int) × Nat)} : gPb (ga_148 q) := gPb_new (N := 73) gb_147 rfl (by decide)
theorem gp_149 {q : ((Int → Int) × Nat)} : (ga_149 q).1 = (ga_149 q00).1 := congrArg (fun P : XP => xwr P 71 4 (some 73)) gp_148
theorem gb_149 {q : ((Int → Int) × Nat)} : gPb (ga_149 q) := gPb_wr gb_148 (by decide) ⟨by decide, by decide⟩
theorem gp_150 {q : ((Int → Int) × Nat)} : (ga_150 q).1 = (ga_150 q00).1 := congrArg (fun P : XP => xwr P 71 0 (some 65)) gp_149
theorem gb_150 {q : ((Int → Int) × Nat)} : gPb (ga_150 q) := gPb_wr gb_149 (by decide) ⟨by decide, by decide⟩
theorem gp_151 {q : ((Int → Int) × Nat)} : (ga_151 q).1 = (ga_151 q00).1 := congrArg (fun P : XP => xwr P 61 1 (some 71)) gp_150
theorem gb_151 {q : ((Int → Int) × Nat)} : gPb (ga_151 q) := gPb_wr gb_150 (by decide) ⟨by decide, by decide⟩
theorem gp_152 {q : ((Int → Int) × Nat)} : (ga_152 q).1 = (ga_152 q00).1 := congrArg (fun P : XP => xwr P 34 2 (some 61)) gp_151
theorem gb_152 {q : ((Int → Int) × Nat)} : gPb (ga_152 q) := gPb_wr gb_151 (by decide) ⟨by decide, by decide⟩
theorem gp_153 {q : ((Int → Int) × Nat)} : (ga_153 q).1 = (ga_153 q00).1 := congrArg (fun P : XP => xsc P 74 (fun _ => none)) gp_152
theorem gb_153 {q : ((Int → Int) × Nat)} : gPb (ga_153 q) := gPb_new (N := 74) gb_152 rfl (by decide)
theorem gp_154 {q : ((Int → Int) × Nat)} : (ga_154 q).1 = (ga_154 q00).1 := congrArg (fun P : XP => xsc P 75 (fun _ => none)) gp_153
theorem gb_154 {q : ((Int → Int) × Nat)} : gPb (ga_154 q) := gPb_new (N := 75) gb_153 rfl (by decide)
theorem gp_155 {q : ((Int → Int) × Nat)} : (ga_155 q).1 = (ga_155 q00).1 := congrArg (fun P : XP => xwr P 74 5 (some 75)) gp_154
theorem gb_155 {q : ((Int → Int) × Nat)} : gPb (ga_155 q) := gPb_wr gb_154 (by decide) ⟨by decide, by decide⟩
theorem gp_156 {q : ((Int → Int) × Nat)} : (ga_156 q).1 = (ga_156 q00).1 := congrArg (fun P : XP => xsc P 76 (fun _ => none)) gp_155
theorem gb_156 {q : ((Int → Int) × Nat)} : gPb (ga_156 q) := gPb_new (N := 76) gb_155 rfl (by decide)
theorem gp_157 {q : ((Int → Int) × Nat)} : (ga_157 q).1 = (ga_157 q00).1 := congrArg (fun P : XP => xwr P 74 6 (some 76)) gp_156
theorem gb_157 {q : ((Int → Int) × Nat)} : gPb (ga_157 q) := gPb_wr gb_156 (by decide) ⟨by decide, by decide⟩
theorem gp_158 {q : ((Int → Int) × Nat)} : (ga_158 q).1 = (ga_158 q00).1 := congrArg (fun P : XP => xsc P 77 (fun _ => none)) gp_157
theorem gb_158 {q : ((Int → Int) × Nat)} : gPb (ga_158 q) := gPb_new (N := 77) gb_157 rfl (by decide)
theorem gp_159 {q : ((Int → Int) × Nat)} : (ga_159 q).1 = (ga_159 q00).1 := congrArg (fun P : XP => xwr P 74 7 (some 77)) gp_158
theorem gb_159 {q : ((Int → Int) × Nat)} : gPb (ga_159 q) := gPb_wr gb_158 (by decide) ⟨by decide, by decide⟩
theorem gp_160 {q : ((Int → Int) × Nat)} : (ga_160 q).1 = (ga_160 q00).1 := congrArg (fun P : XP => xsc P 78 (fun _ => none)) gp_159
theorem gb_160 {q : ((Int → Int) × Nat)} : gPb (ga_160 q) := gPb_new (N := 78) gb_159 rfl (by decide)
theorem gp_161 {q : ((Int → Int) × Nat)} : (ga_161 q).1 = (ga_161 q00).1 := congrArg (fun P : XP => xsc P 79 (fun _ => none)) gp_160
theorem gb_161 {q : ((Int → Int) × Nat)} : gPb (ga_161 q) := gPb_new (N := 79) gb_160 rfl (by decide)
theorem gp_162 {q : ((Int → Int) × Nat)} : (ga_162 q).1 = (ga_162 q00).1 := congrArg (fun P : XP => xwr P 78 5 (some 79)) gp_161
theorem gb_162 {q : ((Int → Int) × Nat)} : gPb (ga_162 q) := gPb_wr gb_161 (by decide) ⟨by decide, by decide⟩
theorem gp_163 {q : ((Int → Int) × Nat)} : (ga_163 q).1 = (ga_163 q00).1 := congrArg (fun P : XP => xsc P 80 (fun _ => none)) gp_162
theorem gb_163 {q : ((Int → Int) × Nat)} : gPb (ga_163 q) := gPb_new (N := 80) gb_162 rfl (by decide)
theorem gp_164 {q : ((Int → Int) × Nat)} : (ga_164 q).1 = (ga_164 q00).1 := congrArg (fun P : XP => xwr P 78 6 (some 80)) gp_163
theorem gb_164 {q : ((Int → Int) × Nat)} : gPb (ga_164 q) := gPb_wr gb_163 (by decide) ⟨by decide, by decide⟩
theorem gp_165 {q : ((Int → Int) × Nat)} : (ga_165 q).1 = (ga_165 q00).1 := congrArg (fun P : XP => xsc P 81 (fun _ => none)) gp_164
theorem gb_165 {q : ((Int → Int) × Nat)} : gPb (ga_165 q) := gPb_new (N := 81) gb_164 rfl (by decide)
theorem gp_166 {q : ((Int → Int) × Nat)} : (ga_166 q).1 = (ga_166 q00).1 := congrArg (fun P : XP => xwr P 78 7 (some 81)) gp_165
theorem gb_166 {q : ((Int → Int) × Nat)} : gPb (ga_166 q) := gPb_wr gb_165 (by decide) ⟨by decide, by decide⟩
theorem gp_167 {q : ((Int → Int) × Nat)} : (ga_167 q).1 = (ga_167 q00).1 := congrArg (fun P : XP => xsc P 82 (fun _ => none)) gp_166
theorem gb_167 {q : ((Int → Int) × Nat)} : gPb (ga_167 q) := gPb_new (N := 82) gb_166 rfl (by decide)
theorem gp_168 {q : ((Int → Int) × Nat)} : (ga_168 q).1 = (ga_168 q00).1 := congrArg (fun P : XP => xwr P 78 8 (some 82)) gp_167
theorem gb_168 {q : ((Int → Int) × Nat)} : gPb (ga_168 q) := gPb_wr gb_167 (by decide) ⟨by decide, by decide⟩
theorem gp_169 {q : ((Int → Int) × Nat)} : (ga_169 q).1 = (ga_169 q00).1 := congrArg (fun P : XP => xsc P 83 (fun _ => none)) gp_168
theorem gb_169 {q : ((Int → Int) × Nat)} : gPb (ga_169 q) := gPb_new (N := 83) gb_168 rfl (by decide)
theorem gp_170 {q : ((Int → Int) × Nat)} : (ga_170 q).1 = (ga_170 q00).1 := congrArg (fun P : XP => xwr P 78 9 (some 83)) gp_169
theorem gb_170 {q : ((Int → Int) × Nat)} : gPb (ga_170 q) := gPb_wr gb_169 (by decide) ⟨by decide, by decide⟩
theorem gp_171 {q : ((Int → Int) × Nat)} : (ga_171 q).1 = (ga_171 q00).1 := congrArg (fun P : XP => xwr P 74 0 (some 78)) gp_170
theorem gb_171 {q : ((Int → Int) × Nat)} : gPb (ga_171 q) := gPb_wr gb_170 (by decide) ⟨by decide, by decide⟩
theorem gp_172 {q : ((Int → Int) × Nat)} : (ga_172 q).1 = (ga_172 q00).1 := congrArg (fun P : XP => xsc P 84 (fun _ => none)) gp_171
theorem gb_172 {q : ((Int → Int) × Nat)} : gPb (ga_172 q) := gPb_new (N := 84) gb_171 rfl (by decide)
theorem gp_173 {q : ((Int → Int) × Nat)} : (ga_173 q).1 = (ga_173 q00).1 := congrArg (fun P : XP => xsc P 85 (fun _ => none)) gp_172
theorem gb_173 {q : ((Int → Int) × Nat)} : gPb (ga_173 q) := gPb_new (N := 85) gb_172 rfl (by decide)
theorem gp_174 {q : ((Int → Int) × Nat)} : (ga_174 q).1 = (ga_174 q00).1 := congrArg (fun P : XP => xwr P 84 3 (some 85)) gp_173
theorem gb_174 {q : ((Int → Int) × Nat)} : gPb (ga_174 q) := gPb_wr gb_173 (by decide) ⟨by decide, by decide⟩
theorem gp_175 {q : ((Int → Int) × Nat)} : (ga_175 q).1 = (ga_175 q00).1 := congrArg (fun P : XP => xsc P 86 (fun _ => none)) gp_174
theorem gb_175 {q : ((Int → Int) × Nat)} : gPb (ga_175 q) := gPb_new (N := 86) gb_174 rfl (by decide)
theorem gp_176 {q : ((Int → Int) × Nat)} : (ga_176 q).1 = (ga_176 q00).1 := congrArg (fun P : XP => xwr P 84 4 (some 86)) gp_175
theorem gb_176 {q : ((Int → Int) × Nat)} : gPb (ga_176 q) := gPb_wr gb_175 (by decide) ⟨by decide, by decide⟩
theorem gp_177 {q : ((Int → Int) × Nat)} : (ga_177 q).1 = (ga_177 q00).1 := congrArg (fun P : XP => xwr P 84 0 (some 78)) gp_176
theorem gb_177 {q : ((Int → Int) × Nat)} : gPb (ga_177 q) := gPb_wr gb_176 (by decide) ⟨by decide, by decide⟩
theorem gp_178 {q : ((Int → Int) × Nat)} : (ga_178 q).1 = (ga_178 q00).1 := congrArg (fun P : XP => xwr P 74 1 (some 84)) gp_177
theorem gb_178 {q : ((Int → Int) × Nat)} : gPb (ga_178 q) := gPb_wr gb_177 (by decide) ⟨by decide, by decide⟩
theorem gp_179 {q : ((Int → Int) × Nat)} : (ga_179 q).1 = (ga_179 q00).1 := congrArg (fun P : XP => xwr P 34 3 (some 74)) gp_178
theorem gb_179 {q : ((Int → Int) × Nat)} : gPb (ga_179 q) := gPb_wr gb_178 (by decide) ⟨by decide, by decide⟩
theorem gp_180 {q : ((Int → Int) × Nat)} : (ga_180 q).1 = (ga_180 q00).1 := congrArg (fun P : XP => xsc P 87 (fun _ => none)) gp_179
theorem gb_180 {q : ((Int → Int) × Nat)} : gPb (ga_180 q) := gPb_new (N := 87) gb_179 rfl (by decide)
theorem gp_181 {q : ((Int → Int) × Nat)} : (ga_181 q).1 = (ga_181 q00).1 := congrArg (fun P : XP => xwr P 0 7 (some 87)) gp_180
theorem gb_181 {q : ((Int → Int) × Nat)} : gPb (ga_181 q) := gPb_wr gb_180 (by decide) ⟨by decide, by decide⟩
theorem gp_182 {q : ((Int → Int) × Nat)} : (ga_182 q).1 = (ga_182 q00).1 := congrArg (fun P : XP => xsc P 88 (fun _ => none)) gp_181
theorem gb_182 {q : ((Int → Int) × Nat)} : gPb (ga_182 q) := gPb_new (N := 88) gb_181 rfl (by decide)
theorem gp_183 {q : ((Int → Int) × Nat)} : (ga_183 q).1 = (ga_183 q00).1 := congrArg (fun P : XP => xsc P 89 (fun _ => none)) gp_182
theorem gb_183 {q : ((Int → Int) × Nat)} : gPb (ga_183 q) := gPb_new (N := 89) gb_182 rfl (by decide)
theorem gp_184 {q : ((Int → Int) × Nat)} : (ga_184 q).1 = (ga_184 q00).1 := congrArg (fun P : XP => xwr P 88 2 (some 89)) gp_183
theorem gb_184 {q : ((Int → Int) × Nat)} : gPb (ga_184 q) := gPb_wr gb_183 (by decide) ⟨by decide, by decide⟩
theorem gp_185 {q : ((Int → Int) × Nat)} : (ga_185 q).1 = (ga_185 q00).1 := congrArg (fun P : XP => xsc P 90 (fun _ => none)) gp_184
theorem gb_185 {q : ((Int → Int) × Nat)} : gPb (ga_185 q) := gPb_new (N := 90) gb_184 rfl (by decide)
theorem gp_186 {q : ((Int → Int) × Nat)} : (ga_186 q).1 = (ga_186 q00).1 := congrArg (fun P : XP => xwr P 88 3 (some 90)) gp_185
theorem gb_186 {q : ((Int → Int) × Nat)} : gPb (ga_186 q) := gPb_wr gb_185 (by decide) ⟨by decide, by decide⟩
theorem gp_187 {q : ((Int → Int) × Nat)} : (ga_187 q).1 = (ga_187 q00).1 := congrArg (fun P : XP => xsc P 91 (fun _ => none)) gp_186
theorem gb_187 {q : ((Int → Int) × Nat)} : gPb (ga_187 q) := gPb_new (N := 91) gb_186 rfl (by decide)
theorem gp_188 {q : ((Int → Int) × Nat)} : (ga_188 q).1 = (ga_188 q00).1 := congrArg (fun P : XP => xwr P 88 4 (some 91)) gp_187
theorem gb_188 {q : ((Int → Int) × Nat)} : gPb (ga_188 q) := gPb_wr gb_187 (by decide) ⟨by decide, by decide⟩
theorem gp_189 {q : ((Int → Int) × Nat)} : (ga_189 q).1 = (ga_189 q00).1 := congrArg (fun P : XP => xwr P 0 8 (some 88)) gp_188
theorem gb_189 {q : ((Int → Int) × Nat)} : gPb (ga_189 q) := gPb_wr gb_188 (by decide) ⟨by decide, by decide⟩
theorem gp_190 {q : ((Int → Int) × Nat)} : (ga_190 q).1 = (ga_190 q00).1 := congrArg (fun P : XP => xwr P 0 9 (some 20)) gp_189
theorem gb_190 {q : ((Int → Int) × Nat)} : gPb (ga_190 q) := gPb_wr gb_189 (by decide) ⟨by decide, by decide⟩
theorem gp_191 {q : ((Int → Int) × Nat)} : (ga_191 q).1 = (ga_191 q00).1 := congrArg (fun P : XP => xwr P 0 10 (some 23)) gp_190
theorem gb_191 {q : ((Int → Int) × Nat)} : gPb (ga_191 q) := gPb_wr gb_190 (by decide) ⟨by decide, by decide⟩
theorem gp_192 {q : ((Int → Int) × Nat)} : (ga_192 q).1 = (ga_192 q00).1 := congrArg (fun P : XP => xsc P 92 (fun _ => none)) gp_191
theorem gb_192 {q : ((Int → Int) × Nat)} : gPb (ga_192 q) := gPb_new (N := 92) gb_191 rfl (by decide)
theorem gp_193 {q : ((Int → Int) × Nat)} : (ga_193 q).1 = (ga_193 q00).1 := congrArg (fun P : XP => xsc P 93 (fun _ => none)) gp_192
theorem gb_193 {q : ((Int → Int) × Nat)} : gPb (ga_193 q) := gPb_new (N := 93) gb_192 rfl (by decide)
theorem gp_194 {q : ((Int → Int) × Nat)} : (ga_194 q).1 = (ga_194 q00).1 := congrArg (fun P : XP => xwr P 92 3 (some 93)) gp_193
theorem gb_194 {q : ((Int → Int) × Nat)} : gPb (ga_194 q) := gPb_wr gb_193 (by decide) ⟨by decide, by decide⟩
theorem gp_195 {q : ((Int → Int) × Nat)} : (ga_195 q).1 = (ga_195 q00).1 := congrArg (fun P : XP => xsc P 94 (fun _ => none)) gp_194
theorem gb_195 {q : ((Int → Int) × Nat)} : gPb (ga_195 q) := gPb_new (N := 94) gb_194 rfl (by decide)
theorem gp_196 {q : ((Int → Int) × Nat)} : (ga_196 q).1 = (ga_196 q00).1 := congrArg (fun P : XP => xwr P 92 4 (some 94)) gp_195
theorem gb_196 {q : ((Int → Int) × Nat)} : gPb (ga_196 q) := gPb_wr gb_195 (by decide) ⟨by decide, by decide⟩
theorem gp_197 {q : ((Int → Int) × Nat)} : (ga_197 q).1 = (ga_197 q00).1 := congrArg (fun P : XP => xsc P 95 (fun _ => none)) gp_196
theorem gb_197 {q : ((Int → Int) × Nat)} : gPb (ga_197 q) := gPb_new (N := 95) gb_196 rfl (by decide)
theorem gp_198 {q : ((Int → Int) × Nat)} : (ga_198 q).1 = (ga_198 q00).1 := congrArg (fun P : XP => xwr P 92 5 (some 95)) gp_197
theorem gb_198 {q : ((Int → Int) × Nat)} : gPb (ga_198 q) := gPb_wr gb_197 (by decide) ⟨by decide, by decide⟩
theorem gp_199 {q : ((Int → Int) × Nat)} : (ga_199 q).1 = (ga_199 q00).1 := congrArg (fun P : XP => xwr P 92 1 (some 16)) gp_198
theorem gb_199 {q : ((Int → Int) × Nat)} : gPb (ga_199 q) := gPb_wr gb_198 (by decide) ⟨by decide, by decide⟩
theorem gp_200 {q : ((Int → Int) × Nat)} : (ga_200 q).1 = (ga_200 q00).1 := congrArg (fun P : XP => xwr P 92 2 (some 23)) gp_199
theorem gb_200 {q : ((Int → Int) × Nat)} : gPb (ga_200 q) := gPb_wr gb_199 (by decide) ⟨by decide, by decide⟩
theorem gp_201 {q : ((Int → Int) × Nat)} : (ga_201 q).1 = (ga_201 q00).1 := congrArg (fun P : XP => xwr P 92 0 (some 10)) gp_200
theorem gb_201 {q : ((Int → Int) × Nat)} : gPb (ga_201 q) := gPb_wr gb_200 (by decide) ⟨by decide, by decide⟩
theorem gp_202 {q : ((Int → Int) × Nat)} : (ga_202 q).1 = (ga_202 q00).1 := congrArg (fun P : XP => xwr P 0 11 (some 92)) gp_201
theorem gb_202 {q : ((Int → Int) × Nat)} : gPb (ga_202 q) := gPb_wr gb_201 (by decide) ⟨by decide, by decide⟩
theorem gp_203 {q : ((Int → Int) × Nat)} : (ga_203 q).1 = (ga_203 q00).1 := congrArg (fun P : XP => xsc P 96 (fun _ => none)) gp_202
theorem gb_203 {q : ((Int → Int) × Nat)} : gPb (ga_203 q) := gPb_new (N := 96) gb_202 rfl (by decide)
theorem gp_204 {q : ((Int → Int) × Nat)} : (ga_204 q).1 = (ga_204 q00).1 := congrArg (fun P : XP => xsc P 97 (fun _ => none)) gp_203
theorem gb_204 {q : ((Int → Int) × Nat)} : gPb (ga_204 q) := gPb_new (N := 97) gb_203 rfl (by decide)
theorem gp_205 {q : ((Int → Int) × Nat)} : (ga_205 q).1 = (ga_205 q00).1 := congrArg (fun P : XP => xwr P 96 6 (some 97)) gp_204
theorem gb_205 {q : ((Int → Int) × Nat)} : gPb (ga_205 q) := gPb_wr gb_204 (by decide) ⟨by decide, by decide⟩
theorem gp_206 {q : ((Int → Int) × Nat)} : (ga_206 q).1 = (ga_206 q00).1 := congrArg (fun P : XP => xwr P 96 0 (some 6)) gp_205
theorem gb_206 {q : ((Int → Int) × Nat)} : gPb (ga_206 q) := gPb_wr gb_205 (by decide) ⟨by decide, by decide⟩
theorem gp_207 {q : ((Int → Int) × Nat)} : (ga_207 q).1 = (ga_207 q00).1 := congrArg (fun P : XP => xwr P 96 1 (some 10)) gp_206
theorem gb_207 {q : ((Int → Int) × Nat)} : gPb (ga_207 q) := gPb_wr gb_206 (by decide) ⟨by decide, by decide⟩
theorem gp_208 {q : ((Int → Int) × Nat)} : (ga_208 q).1 = (ga_208 q00).1 := congrArg (fun P : XP => xwr P 96 2 (some 19)) gp_207
theorem gb_208 {q : ((Int → Int) × Nat)} : gPb (ga_208 q) := gPb_wr gb_207 (by decide) ⟨by decide, by decide⟩
theorem gp_209 {q : ((Int → Int) × Nat)} : (ga_209 q).1 = (ga_209 q00).1 := congrArg (fun P : XP => xwr P 96 3 (some 20)) gp_208
theorem gb_209 {q : ((Int → Int) × Nat)} : gPb (ga_209 q) := gPb_wr gb_208 (by decide) ⟨by decide, by decide⟩
theorem gp_210 {q : ((Int → Int) × Nat)} : (ga_210 q).1 = (ga_210 q00).1 := congrArg (fun P : XP => xwr P 96 4 (some 23)) gp_209
theorem gb_210 {q : ((Int → Int) × Nat)} : gPb (ga_210 q) := gPb_wr gb_209 (by decide) ⟨by decide, by decide⟩
theorem gp_211 {q : ((Int → Int) × Nat)} : (ga_211 q).1 = (ga_211 q00).1 := congrArg (fun P : XP => xsc P 98 (fun _ => none)) gp_210
theorem gb_211 {q : ((Int → Int) × Nat)} : gPb (ga_211 q) := gPb_new (N := 98) gb_210 rfl (by decide)
theorem gp_212 {q : ((Int → Int) × Nat)} : (ga_212 q).1 = (ga_212 q00).1 := congrArg (fun P : XP => xsc P 99 (fun _ => none)) gp_211
theorem gb_212 {q : ((Int → Int) × Nat)} : gPb (ga_212 q) := gPb_new (N := 99) gb_211 rfl (by decide)
theorem gp_213 {q : ((Int → Int) × Nat)} : (ga_213 q).1 = (ga_213 q00).1 := congrArg (fun P : XP => xwr P 98 3 (some 99)) gp_212
theorem gb_213 {q : ((Int → Int) × Nat)} : gPb (ga_213 q) := gPb_wr gb_212 (by decide) ⟨by decide, by decide⟩
theorem gp_214 {q : ((Int → Int) × Nat)} : (ga_214 q).1 = (ga_214 q00).1 := congrArg (fun P : XP => xsc P 100 (fun _ => none)) gp_213
theorem gb_214 {q : ((Int → Int) × Nat)} : gPb (ga_214 q) := gPb_new (N := 100) gb_213 rfl (by decide)
theorem gp_215 {q : ((Int → Int) × Nat)} : (ga_215 q).1 = (ga_215 q00).1 := congrArg (fun P : XP => xwr P 98 4 (some 100)) gp_214
theorem gb_215 {q : ((Int → Int) × Nat)} : gPb (ga_215 q) := gPb_wr gb_214 (by decide) ⟨by decide, by decide⟩
theorem gp_216 {q : ((Int → Int) × Nat)} : (ga_216 q).1 = (ga_216 q00).1 := congrArg (fun P : XP => xwr P 98 0 (some 10)) gp_215
theorem gb_216 {q : ((Int → Int) × Nat)} : gPb (ga_216 q) := gPb_wr gb_215 (by decide) ⟨by decide, by decide⟩
theorem gp_217 {q : ((Int → Int) × Nat)} : (ga_217 q).1 = (ga_217 q00).1 := congrArg (fun P : XP => xwr P 96 5 (some 98)) gp_216
theorem gb_217 {q : ((Int → Int) × Nat)} : gPb (ga_217 q) := gPb_wr gb_216 (by decide) ⟨by decide, by decide⟩
theorem gp_218 {q : ((Int → Int) × Nat)} : (ga_218 q).1 = (ga_218 q00).1 := congrArg (fun P : XP => xwr P 0 12 (some 96)) gp_217
theorem gb_218 {q : ((Int → Int) × Nat)} : gPb (ga_218 q) := gPb_wr gb_217 (by decide) ⟨by decide, by decide⟩
theorem gp_219 {q : ((Int → Int) × Nat)} : (ga_219 q).1 = (ga_219 q00).1 := congrArg (fun P : XP => xsc P 101 (fun _ => none)) gp_218
theorem gb_219 {q : ((Int → Int) × Nat)} : gPb (ga_219 q) := gPb_new (N := 101) gb_218 rfl (by decide)
theorem gp_220 {q : ((Int → Int) × Nat)} : (ga_220 q).1 = (ga_220 q00).1 := congrArg (fun P : XP => xsc P 102 (fun _ => none)) gp_219
theorem gb_220 {q : ((Int → Int) × Nat)} : gPb (ga_220 q) := gPb_new (N := 102) gb_219 rfl (by decide)
theorem gp_221 {q : ((Int → Int) × Nat)} : (ga_221 q).1 = (ga_221 q00).1 := congrArg (fun P : XP => xwr P 101 0 (some 102)) gp_220
theorem gb_221 {q : ((Int → Int) × Nat)} : gPb (ga_221 q) := gPb_wr gb_220 (by decide) ⟨by decide, by decide⟩
theorem gp_222 {q : ((Int → Int) × Nat)} : (ga_222 q).1 = (ga_222 q00).1 := congrArg (fun P : XP => xsc P 103 (fun _ => none)) gp_221
theorem gb_222 {q : ((Int → Int) × Nat)} : gPb (ga_222 q) := gPb_new (N := 103) gb_221 rfl (by decide)
theorem gp_223 {q : ((Int → Int) × Nat)} : (ga_223 q).1 = (ga_223 q00).1 := congrArg (fun P : XP => xwr P 101 3 (some 103)) gp_222
theorem gb_223 {q : ((Int → Int) × Nat)} : gPb (ga_223 q) := gPb_wr gb_222 (by decide) ⟨by decide, by decide⟩
theorem gp_224 {q : ((Int → Int) × Nat)} : (ga_224 q).1 = (ga_224 q00).1 := congrArg (fun P : XP => xsc P 104 (fun _ => none)) gp_223
theorem gb_224 {q : ((Int → Int) × Nat)} : gPb (ga_224 q) := gPb_new (N := 104) gb_223 rfl (by decide)
theorem gp_225 {q : ((Int → Int) × Nat)} : (ga_225 q).1 = (ga_225 q00).1 := congrArg (fun P : XP => xwr P 101 4 (some 104)) gp_224
theorem gb_225 {q : ((Int → Int) × Nat)} : gPb (ga_225 q) := gPb_wr gb_224 (by decide) ⟨by decide, by decide⟩
theorem gp_226 {q : ((Int → Int) × Nat)} : (ga_226 q).1 = (ga_226 q00).1 := congrArg (fun P : XP => xsc P 105 (fun _ => none)) gp_225
theorem gb_226 {q : ((Int → Int) × Nat)} : gPb (ga_226 q) := gPb_new (N := 105) gb_225 rfl (by decide)
theorem gp_227 {q : ((Int → Int) × Nat)} : (ga_227 q).1 = (ga_227 q00).1 := congrArg (fun P : XP => xwr P 101 5 (some 105)) gp_226
theorem gb_227 {q : ((Int → Int) × Nat)} : gPb (ga_227 q) := gPb_wr gb_226 (by decide) ⟨by decide, by decide⟩
theorem gp_228 {q : ((Int → Int) × Nat)} : (ga_228 q).1 = (ga_228 q00).1 := congrArg (fun P : XP => xsc P 106 (fun _ => none)) gp_227
theorem gb_228 {q : ((Int → Int) × Nat)} : gPb (ga_228 q) := gPb_new (N := 106) gb_227 rfl (by decide)
theorem gp_229 {q : ((Int → Int) × Nat)} : (ga_229 q).1 = (ga_229 q00).1 := congrArg (fun P : XP => xwr P 101 6 (some 106)) gp_228
theorem gb_229 {q : ((Int → Int) × Nat)} : gPb (ga_229 q) := gPb_wr gb_228 (by decide) ⟨by decide, by decide⟩
theorem gp_230 {q : ((Int → Int) × Nat)} : (ga_230 q).1 = (ga_230 q00).1 := congrArg (fun P : XP => xsc P 107 (fun _ => none)) gp_229
theorem gb_230 {q : ((Int → Int) × Nat)} : gPb (ga_230 q) := gPb_new (N := 107) gb_229 rfl (by decide)
theorem gp_231 {q : ((Int → Int) × Nat)} : (ga_231 q).1 = (ga_231 q00).1 := congrArg (fun P : XP => xwr P 101 7 (some 107)) gp_230
theorem gb_231 {q : ((Int → Int) × Nat)} : gPb (ga_231 q) := gPb_wr gb_230 (by decide) ⟨by decide, by decide⟩
theorem gp_232 {q : ((Int → Int) × Nat)} : (ga_232 q).1 = (ga_232 q00).1 := congrArg (fun P : XP => xsc P 108 (fun _ => none)) gp_231
theorem gb_232 {q : ((Int → Int) × Nat)} : gPb (ga_232 q) := gPb_new (N := 108) gb_231 rfl (by decide)
theorem gp_233 {q : ((Int → Int) × Nat)} : (ga_233 q).1 = (ga_233 q00).1 := congrArg (fun P : XP => xwr P 101 15 (some 108)) gp_232
theorem gb_233 {q : ((Int → Int) × Nat)} : gPb (ga_233 q) := gPb_wr gb_232 (by decide) ⟨by decide, by decide⟩
theorem gp_234 {q : ((Int → Int) × Nat)} : (ga_234 q).1 = (ga_234 q00).1 := congrArg (fun P : XP => xsc P 109 (fun _ => none)) gp_233
theorem gb_234 {q : ((Int → Int) × Nat)} : gPb (ga_234 q) := gPb_new (N := 109) gb_233 rfl (by decide)
theorem gp_235 {q : ((Int → Int) × Nat)} : (ga_235 q).1 = (ga_235 q00).1 := congrArg (fun P : XP => xwr P 101 17 (some 109)) gp_234
theorem gb_235 {q : ((Int → Int) × Nat)} : gPb (ga_235 q) := gPb_wr gb_234 (by decide) ⟨by decide, by decide⟩
theorem gp_236 {q : ((Int → Int) × Nat)} : (ga_236 q).1 = (ga_236 q00).1 := congrArg (fun P : XP => xsc P 110 (fun _ => none)) gp_235
theorem gb_236 {q : ((Int → Int) × Nat)} : gPb (ga_236 q) := gPb_new (N := 110) gb_235 rfl (by decide)
theorem gp_237 {q : ((Int → Int) × Nat)} : (ga_237 q).1 = (ga_237 q00).1 := congrArg (fun P : XP => xwr P 101 19 (some 110)) gp_236
theorem gb_237 {q : ((Int → Int) × Nat)} : gPb (ga_237 q) := gPb_wr gb_236 (by decide) ⟨by decide, by decide⟩
theorem gp_238 {q : ((Int → Int) × Nat)} : (ga_238 q).1 = (ga_238 q00).1 := congrArg (fun P : XP => xsc P 111 (fun _ => none)) gp_237
theorem gb_238 {q : ((Int → Int) × Nat)} : gPb (ga_238 q) := gPb_new (N := 111) gb_237 rfl (by decide)
theorem gp_239 {q : ((Int → Int) × Nat)} : (ga_239 q).1 = (ga_239 q00).1 := congrArg (fun P : XP => xwr P 101 20 (some 111)) gp_238
theorem gb_239 {q : ((Int → Int) × Nat)} : gPb (ga_239 q) := gPb_wr gb_238 (by decide) ⟨by decide, by decide⟩
theorem gp_240 {q : ((Int → Int) × Nat)} : (ga_240 q).1 = (ga_240 q00).1 := congrArg (fun P : XP => xsc P 112 (fun _ => none)) gp_239
theorem gb_240 {q : ((Int → Int) × Nat)} : gPb (ga_240 q) := gPb_new (N := 112) gb_239 rfl (by decide)
theorem gp_241 {q : ((Int → Int) × Nat)} : (ga_241 q).1 = (ga_241 q00).1 := congrArg (fun P : XP => xwr P 101 24 (some 112)) gp_240
theorem gb_241 {q : ((Int → Int) × Nat)} : gPb (ga_241 q) := gPb_wr gb_240 (by decide) ⟨by decide, by decide⟩
theorem gp_242 {q : ((Int → Int) × Nat)} : (ga_242 q).1 = (ga_242 q00).1 := congrArg (fun P : XP => xsc P 113 (fun _ => none)) gp_241
theorem gb_242 {q : ((Int → Int) × Nat)} : gPb (ga_242 q) := gPb_new (N := 113) gb_241 rfl (by decide)
theorem gp_243 {q : ((Int → Int) × Nat)} : (ga_243 q).1 = (ga_243 q00).1 := congrArg (fun P : XP => xwr P 101 26 (some 113)) gp_242
theorem gb_243 {q : ((Int → Int) × Nat)} : gPb (ga_243 q) := gPb_wr gb_242 (by decide) ⟨by decide, by decide⟩
theorem gp_244 {q : ((Int → Int) × Nat)} : (ga_244 q).1 = (ga_244 q00).1 := congrArg (fun P : XP => xsc P 114 (fun _ => none)) gp_243
theorem gb_244 {q : ((Int → Int) × Nat)} : gPb (ga_244 q) := gPb_new (N := 114) gb_243 rfl (by decide)
theorem gp_245 {q : ((Int → Int) × Nat)} : (ga_245 q).1 = (ga_245 q00).1 := congrArg (fun P : XP => xwr P 101 27 (some 114)) gp_244
theorem gb_245 {q : ((Int → Int) × Nat)} : gPb (ga_245 q) := gPb_wr gb_244 (by decide) ⟨by decide, by decide⟩
theorem gp_246 {q : ((Int → Int) × Nat)} : (ga_246 q).1 = (ga_246 q00).1 := congrArg (fun P : XP => xsc P 115 (fun _ => none)) gp_245
theorem gb_246 {q : ((Int → Int) × Nat)} : gPb (ga_246 q) := gPb_new (N := 115) gb_245 rfl (by decide)
theorem gp_247 {q : ((Int → Int) × Nat)} : (ga_247 q).1 = (ga_247 q00).1 := congrArg (fun P : XP => xwr P 101 28 (some 115)) gp_246
theorem gb_247 {q : ((Int → Int) × Nat)} : gPb (ga_247 q) := gPb_wr gb_246 (by decide) ⟨by decide, by decide⟩
theorem gp_248 {q : ((Int → Int) × Nat)} : (ga_248 q).1 = (ga_248 q00).1 := congrArg (fun P : XP => xsc P 116 (fun _ => none)) gp_247
theorem gb_248 {q : ((Int → Int) × Nat)} : gPb (ga_248 q) := gPb_new (N := 116) gb_247 rfl (by decide)
theorem gp_249 {q : ((Int → Int) × Nat)} : (ga_249 q).1 = (ga_249 q00).1 := congrArg (fun P : XP => xwr P 101 30 (some 116)) gp_248
theorem gb_249 {q : ((Int → Int) × Nat)} : gPb (ga_249 q) := gPb_wr gb_248 (by decide) ⟨by decide, by decide⟩
theorem gp_250 {q : ((Int → Int) × Nat)} : (ga_250 q).1 = (ga_250 q00).1 := congrArg (fun P : XP => xsc P 117 (fun _ => none)) gp_249
theorem gb_250 {q : ((Int → Int) × Nat)} : gPb (ga_250 q) := gPb_new (N := 117) gb_249 rfl (by decide)
theorem gp_251 {q : ((Int → Int) × Nat)} : (ga_251 q).1 = (ga_251 q00).1 := congrArg (fun P : XP => xwr P 101 32 (some 117)) gp_250
theorem gb_251 {q : ((Int → Int) × Nat)} : gPb (ga_251 q) := gPb_wr gb_250 (by decide) ⟨by decide, by decide⟩
theorem gp_252 {q : ((Int → Int) × Nat)} : (ga_252 q).1 = (ga_252 q00).1 := congrArg (fun P : XP => xsc P 118 (fun _ => none)) gp_251
theorem gb_252 {q : ((Int → Int) × Nat)} : gPb (ga_252 q) := gPb_new (N := 118) gb_251 rfl (by decide)
theorem gp_253 {q : ((Int → Int) × Nat)} : (ga_253 q).1 = (ga_253 q00).1 := congrArg (fun P : XP => xwr P 101 33 (some 118)) gp_252
theorem gb_253 {q : ((Int → Int) × Nat)} : gPb (ga_253 q) := gPb_wr gb_252 (by decide) ⟨by decide, by decide⟩
theorem gp_254 {q : ((Int → Int) × Nat)} : (ga_254 q).1 = (ga_254 q00).1 := congrArg (fun P : XP => xsc P 119 (fun _ => none)) gp_253
theorem gb_254 {q : ((Int → Int) × Nat)} : gPb (ga_254 q) := gPb_new (N := 119) gb_253 rfl (by decide)
theorem gp_255 {q : ((Int → Int) × Nat)} : (ga_255 q).1 = (ga_255 q00).1 := congrArg (fun P : XP => xwr P 101 34 (some 119)) gp_254
theorem gb_255 {q : ((Int → Int) × Nat)} : gPb (ga_255 q) := gPb_wr gb_254 (by decide) ⟨by decide, by decide⟩
theorem gp_256 {q : ((Int → Int) × Nat)} : (ga_256 q).1 = (ga_256 q00).1 := congrArg (fun P : XP => xsc P 120 (fun _ => none)) gp_255
theorem gb_256 {q : ((Int → Int) × Nat)} : gPb (ga_256 q) := gPb_new (N := 120) gb_255 rfl (by decide)
theorem gp_257 {q : ((Int → Int) × Nat)} : (ga_257 q).1 = (ga_257 q00).1 := congrArg (fun P : XP => xwr P 101 36 (some 120)) gp_256
theorem gb_257 {q : ((Int → Int) × Nat)} : gPb (ga_257 q) := gPb_wr gb_256 (by decide) ⟨by decide, by decide⟩
theorem gp_258 {q : ((Int → Int) × Nat)} : (ga_258 q).1 = (ga_258 q00).1 := congrArg (fun P : XP => xsc P 121 (fun _ => none)) gp_257
theorem gb_258 {q : ((Int → Int) × Nat)} : gPb (ga_258 q) := gPb_new (N := 121) gb_257 rfl (by decide)
theorem gp_259 {q : ((Int → Int) × Nat)} : (ga_259 q).1 = (ga_259 q00).1 := congrArg (fun P : XP => xwr P 101 37 (some 121)) gp_258
theorem gb_259 {q : ((Int → Int) × Nat)} : gPb (ga_259 q) := gPb_wr gb_258 (by decide) ⟨by decide, by decide⟩
theorem gp_260 {q : ((Int → Int) × Nat)} : (ga_260 q).1 = (ga_260 q00).1 := congrArg (fun P : XP => xsc P 122 (fun _ => none)) gp_259
theorem gb_260 {q : ((Int → Int) × Nat)} : gPb (ga_260 q) := gPb_new (N := 122) gb_259 rfl (by decide)
theorem gp_261 {q : ((Int → Int) × Nat)} : (ga_261 q).1 = (ga_261 q00).1 := congrArg (fun P : XP => xwr P 101 39 (some 122)) gp_260
theorem gb_261 {q : ((Int → Int) × Nat)} : gPb (ga_261 q) := gPb_wr gb_260 (by decide) ⟨by decide, by decide⟩
theorem gp_262 {q : ((Int → Int) × Nat)} : (ga_262 q).1 = (ga_262 q00).1 := congrArg (fun P : XP => xsc P 123 (fun _ => none)) gp_261
theorem gb_262 {q : ((Int → Int) × Nat)} : gPb (ga_262 q) := gPb_new (N := 123) gb_261 rfl (by decide)
theorem gp_263 {q : ((Int → Int) × Nat)} : (ga_263 q).1 = (ga_263 q00).1 := congrArg (fun P : XP => xwr P 101 40 (some 123)) gp_262
theorem gb_263 {q : ((Int → Int) × Nat)} : gPb (ga_263 q) := gPb_wr gb_262 (by decide) ⟨by decide, by decide⟩
theorem gp_264 {q : ((Int → Int) × Nat)} : (ga_264 q).1 = (ga_264 q00).1 := congrArg (fun P : XP => xsc P 124 (fun _ => none)) gp_263
theorem gb_264 {q : ((Int → Int) × Nat)} : gPb (ga_264 q) := gPb_new (N := 124) gb_263 rfl (by decide)
theorem gp_265 {q : ((Int → Int) × Nat)} : (ga_265 q).1 = (ga_265 q00).1 := congrArg (fun P : XP => xwr P 101 41 (some 124)) gp_264
theorem gb_265 {q : ((Int → Int) × Nat)} : gPb (ga_265 q) := gPb_wr gb_264 (by decide) ⟨by decide, by decide⟩
theorem gp_266 {q : ((Int → Int) × Nat)} : (ga_266 q).1 = (ga_266 q00).1 := congrArg (fun P : XP => xsc P 125 (fun _ => none)) gp_265
theorem gb_266 {q : ((Int → Int) × Nat)} : gPb (ga_266 q) := gPb_new (N := 125) gb_265 rfl (by decide)
theorem gp_267 {q : ((Int → Int) × Nat)} : (ga_267 q).1 = (ga_267 q00).1 := congrArg (fun P : XP => xwr P 101 42 (some 125)) gp_266
theorem gb_267 {q : ((Int → Int) × Nat)} : gPb (ga_267 q) := gPb_wr gb_266 (by decide) ⟨by decide, by decide⟩
theorem ga_P {q : ((Int → Int) × Nat)} : (ga_267 q).1 = (ga_267 q00).1 := gp_267
set_option maxRecDepth 20000 in
theorem ga_S {q : ((Int → Int) × Nat)} : (ga_267 q).2.1 = (ga_267 q00).2.1 := rfl
set_option maxRecDepth 20000 in
theorem ga_n {q : ((Int → Int) × Nat)} : (ga_267 q).2.2 = (126, q) := rfl
set_option maxRecDepth 20000 in
theorem ga_Sd : (List.range 126).all (fun i => decide ((ga_267 q00).2.1 i = gS0 i)) = true := by decide +kernel
set_option maxRecDepth 20000 in
theorem ga_Pd : (List.range 126).all (fun i => (List.range 43).all (fun j => decide ((ga_267 q00).1 i (j : Int) = cond (Nat.beq i 19) none (gP0 i (j : Int))))) = true := by decide +kernel
theorem gP0_len : (List.range 126).all (fun i => decide (((gP0t.getD (i / 16) []).getD (i % 16) []).length ≤ 43)) = true := by decide +kernel
theorem ga_fin {q : ((Int → Int) × Nat)} : ga_267 q = gG ((0, (fun _ => 0), (fun _ => 0), q) : GD) := by
  have hb := gb_267 (q := q)
  have hP : (ga_267 q).1 = gP ((0, (fun _ => 0), (fun _ => 0), q) : GD) := by
    funext i j
    unfold gP
    by_cases c : i < 126
    · rw [bltT c]
      by_cases c9 : i = 19
      · rw [beqT c9]
        show (ga_267 q).1 i j = if 0 ≤ j ∧ j < ((0 : Nat) : Int) then some (126 + 3 * j.toNat) else none
        rw [if_neg (by omega)]
        by_cases cj : j < 0 ∨ 43 ≤ j
        · exact hb.1 i j (Or.inr cj)
        · have h1 := List.all_eq_true.mp ga_Pd i (List.mem_range.mpr c)
          have h2 := of_decide_eq_true (List.all_eq_true.mp h1 j.toNat (List.mem_range.mpr (by omega)))
          rw [Int.toNat_of_nonneg (by omega), beqT c9] at h2
          rw [ga_P]; exact h2
      · rw [beq_f c9]
        show (ga_267 q).1 i j = if j < 0 then none else gP0 i j
        by_cases c0 : j < 0
        · rw [if_pos c0]; exact hb.1 i j (Or.inr (Or.inl c0))
        · rw [if_neg c0]
          by_cases c4 : 43 ≤ j
          · rw [hb.1 i j (Or.inr (Or.inr c4))]
            have hl := of_decide_eq_true (List.all_eq_true.mp gP0_len i (List.mem_range.mpr c))
            unfold gP0
            rw [List.getD_eq_getElem?_getD, List.getElem?_eq_none (by omega)]
            rfl
          · have h1 := List.all_eq_true.mp ga_Pd i (List.mem_range.mpr c)
            have h2 := of_decide_eq_true (List.all_eq_true.mp h1 j.toNat (List.mem_range.mpr (by omega)))
            rw [Int.toNat_of_nonneg (by omega), beq_f c9] at h2
            rw [ga_P]; exact h2
    · rw [bltF c, bltF (show ¬ i < 126 + 3 * ((0, (fun _ => 0), (fun _ => 0), q) : GD).1 from c)]
      exact hb.1 i j (Or.inl (by omega))
  have hS : (ga_267 q).2.1 = gS ((0, (fun _ => 0), (fun _ => 0), q) : GD) := by
    funext i
    unfold gS
    by_cases c : i < 126
    · rw [bltT c]
      have h1 := of_decide_eq_true (List.all_eq_true.mp ga_Sd i (List.mem_range.mpr c))
      rw [ga_S]; exact h1
    · rw [bltF c, bltF (show ¬ i < 126 + 3 * ((0, (fun _ => 0), (fun _ => 0), q) : GD).1 from c)]
      exact hb.2 i (by omega)
  have e : ga_267 q = ((ga_267 q).1, ((ga_267 q).2.1, (ga_267 q).2.2)) := rfl
  rw [e, hP, hS, ga_n]
  rfl
theorem SO_zero : SO (fun _ => 0) := ⟨⟨by decide, by decide⟩, ⟨by decide, by decide⟩, Or.inl rfl, ⟨by decide, by decide⟩, ⟨by decide, by decide⟩, ⟨by decide, by decide⟩, fun _ _ _ => ⟨by show (-1 : Int) ≤ 0; decide, Or.inr ⟨rfl, rfl⟩⟩, fun _ _ _ => ⟨by show (0 : Int) ≤ 0; decide, by show (0 : Int) ≤ 99; decide⟩, fun _ _ _ => ⟨by show (0 : Int) ≤ 0; decide, by show (0 : Int) ≤ 3; decide⟩, fun _ _ _ => ⟨by show (0 : Int) ≤ 0; decide, by show (0 : Int) ≤ 9; decide⟩, fun _ _ _ => ⟨by show (0 : Int) ≤ 0; decide, by show (0 : Int) ≤ 99; decide⟩, fun _ _ _ => ⟨by show (0 : Int) ≤ 0; decide, by show (0 : Int) ≤ 9; decide⟩⟩
theorem cvw_zero : cvw (fun _ => 0) (fun _ => 0) (fun _ => 0) (fun _ => 0) (fun _ => 0) (fun _ => 0) (fun _ => 0) (fun _ => 0) (fun _ => 0) = fun _ => 0 := by
  funext j
  unfold cvw
  simp only [ite_self]
theorem R2_zero : R2 (fun _ => 0) (fun _ => 0) (fun _ => 0) (fun _ => 0) (fun _ => 0) (fun _ => 0) (fun _ => 0) (fun _ => 0) (fun _ => 0) (fun _ => 0) := by
  refine ⟨cvw_zero.symm, ⟨by rw [cvw_zero]; exact SO_zero, fun g s g0 g1 => absurd (show g < 0 from g1) (by omega)⟩, by show (0 : Int) ≤ 999; decide, rfl⟩
theorem RB_zero : RB (fun _ => 0) := fun _ => ⟨by show (-2147483648 : Int) ≤ 0; decide, by show (0 : Int) ≤ 2147483647; decide⟩
theorem R7_zero {k : Int} {S F Kd Z Tr Lk Wt T O U N1 N2 N3 Im Fo Xs : Int → Int} {rs : Int} (hF : F 0 = 0) : R7 k 0 0 S F Kd Z Tr Lk Wt T O U N1 N2 N3 Im Fo Xs rs := ⟨rfl, Or.inl rfl, Or.inl hF, fun h => absurd h (by decide)⟩
theorem R3_zero {q : ((Int → Int) × Nat)} {k0 s0 k1 s1 k2 s2 k3 s3 k4 s4 k5 s5 sg cl cn : Int → Int} : R3 0 0 (-1) (-1) ((0, (fun _ => 0), (fun _ => 0), q) : GD) k0 s0 k1 s1 k2 s2 k3 s3 k4 s4 k5 s5 sg cl cn := by
  refine ⟨rfl, rfl, by show 0 ≤ 6; decide, rfl, ⟨by decide, by show (-1 : Int) < ((0 : Nat) : Int); decide⟩, fun f f0 f1 => ?_, fun f f0 f1 => ?_, fun f f0 f1 => ?_⟩
  · have f1' : f < ((0 : Nat) : Int) := f1
    exact ⟨f0, f1, by show 0 ≤ 6; decide, fun h => by omega⟩
  · have f1' : f < ((0 : Nat) : Int) := f1
    exact ⟨f0, by omega, fun h => by omega⟩
  · have f1' : f < ((0 : Nat) : Int) := f1
    omega
set_option maxRecDepth 20000 in
theorem REL_start {q : ((Int → Int) × Nat)} : REL ia_132 ((0, (fun _ => 0), (fun _ => 0), q) : GD) := by
  refine ⟨⟨rfl, ⟨by show (0 : Int) ≤ 0; decide, by show (0 : Int) ≤ 400; decide⟩, rfl, fun j j0 j1 => absurd (show j < 0 from j1) (by omega)⟩, R2_zero, R3_zero, ⟨rfl, by show (0 : Int) ≤ 0; decide, by show (0 : Int) < 2147483648; decide⟩, ⟨⟨⟨by show (0 : Int) ≤ 0; decide, by show (0 : Int) ≤ 10; decide⟩, rfl, fun i i0 i1 => absurd (show i < 0 from i1) (by omega)⟩, ⟨⟨by show (0 : Int) ≤ 0; decide, by show (0 : Int) ≤ 10; decide⟩, fun i i0 i1 => ?_⟩, rfl⟩, ⟨rfl, ⟨by show (0 : Int) ≤ 0; decide, by show (0 : Int) ≤ 20; decide⟩, ⟨by show (0 : Int) ≤ 0; decide, by show (0 : Int) < 20; decide⟩, fun i i0 i1 => absurd (show i < 0 from i1) (by omega)⟩, ⟨R7_zero rfl, R7_zero rfl, R7_zero rfl, R7_zero rfl⟩, ⟨fun _ => Or.inl rfl, fun _ => ⟨by show (-1 : Int) ≤ 0; decide, by show (0 : Int) < 5; decide⟩, fun _ => ⟨by show (-1 : Int) ≤ 0; decide, by show (0 : Int) < 5; decide⟩, RB_zero, RB_zero⟩⟩
  exact ⟨⟨by show (0 : Int) ≤ 0; decide, by show (0 : Int) ≤ 60; decide⟩, ⟨by show (0 : Int) ≤ 0; decide, by show (0 : Int) < 10; decide⟩, ⟨by show (-1 : Int) ≤ 0; decide, by show (0 : Int) < 5; decide⟩⟩
theorem law_all {q : ((Int → Int) × Nat)} (hq : q.2 ≤ 3072) (hsc : ∀ j, xrg (q.1 j)) : xR 2048 264 (mE 264) 0 [xt 2, xt 0, xt 0, xt 0] [] (fun _ _ => 0) (fun _ _ => 0) (xG0 q) 600000 7302250 (fun r _ _ _ => r = some (xi 1)) := by
  refine law_start (d := 2048) (by decide) ?_
  rw [ga_fin]
  refine law_loop law_rule (by decide) 513 ⟨by decide, by show (0 : Int) ≤ (q.2 : Int) + 6; omega⟩ (by show (q.2 : Int) ≤ 1000000; omega) (by show (q.2 : Int) - 0 < 6 * (((513 : Nat) : Int) + 1); omega) hsc REL_start (by decide) (by decide)
