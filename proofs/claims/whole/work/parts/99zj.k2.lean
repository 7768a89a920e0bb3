/-! nothing beyond -/
def gbad (i : Nat) (j : Int) : Prop := 126 ≤ i ∨ j < 0 ∨ 43 ≤ j
def gPb (G : XG) : Prop := (∀ i j, gbad i j → G.1 i j = none) ∧ ∀ i, 126 ≤ i → G.2.1 i = (0, 0)
theorem gPb_new {G : XG} {sh : Nat × Nat} {N : Nat} (h : gPb G) (hn : G.2.2.1 = N) (hN : N < 126) : gPb (xnewG G sh) := by
  unfold xnewG
  rw [hn]
  refine ⟨fun i j hb => ?_, fun i hi => ?_⟩
  · show xsc G.1 N (fun _ => none) i j = none
    by_cases c : i = N
    · subst c; rw [xsc_same]
    · rw [xsc_ne _ _ c]; exact h.1 i j hb
  · show xsc G.2.1 N sh i = (0, 0)
    rw [xsc_ne _ _ (by omega)]; exact h.2 i hi
theorem gPb_wr {G : XG} {c : Nat} {k : Int} {v : Option Nat} (h : gPb G) (hc : c < 126) (hk : 0 ≤ k ∧ k < 43) : gPb ((xwr G.1 c k v, G.2) : XG) := by
  refine ⟨fun i j hb => ?_, fun i hi => h.2 i hi⟩
  show xsc G.1 c (xup (G.1 c) k v) i j = none
  by_cases q : i = c
  · subst q
    rw [xsc_same, xup_ne _ _ (by unfold gbad at hb; omega)]
    exact h.1 i j hb
  · rw [xsc_ne _ _ q]; exact h.1 i j hb
theorem gb_0 {q : ((Int → Int) × Nat)} : gPb (ga_0 q) := ⟨fun _ _ _ => rfl, fun _ _ => rfl⟩
theorem gb_1 {q : ((Int → Int) × Nat)} : gPb (ga_1 q) := gPb_new (N := 0) gb_0 rfl (by decide)
theorem gb_2 {q : ((Int → Int) × Nat)} : gPb (ga_2 q) := gPb_new (N := 1) gb_1 rfl (by decide)
theorem gb_3 {q : ((Int → Int) × Nat)} : gPb (ga_3 q) := gPb_new (N := 2) gb_2 rfl (by decide)
theorem gb_4 {q : ((Int → Int) × Nat)} : gPb (ga_4 q) := gPb_wr gb_3 (by decide) ⟨by decide, by decide⟩
theorem gb_5 {q : ((Int → Int) × Nat)} : gPb (ga_5 q) := gPb_new (N := 3) gb_4 rfl (by decide)
theorem gb_6 {q : ((Int → Int) × Nat)} : gPb (ga_6 q) := gPb_wr gb_5 (by decide) ⟨by decide, by decide⟩
theorem gb_7 {q : ((Int → Int) × Nat)} : gPb (ga_7 q) := gPb_new (N := 4) gb_6 rfl (by decide)
theorem gb_8 {q : ((Int → Int) × Nat)} : gPb (ga_8 q) := gPb_wr gb_7 (by decide) ⟨by decide, by decide⟩
theorem gb_9 {q : ((Int → Int) × Nat)} : gPb (ga_9 q) := gPb_new (N := 5) gb_8 rfl (by decide)
theorem gb_10 {q : ((Int → Int) × Nat)} : gPb (ga_10 q) := gPb_wr gb_9 (by decide) ⟨by decide, by decide⟩
theorem gb_11 {q : ((Int → Int) × Nat)} : gPb (ga_11 q) := gPb_new (N := 6) gb_10 rfl (by decide)
theorem gb_12 {q : ((Int → Int) × Nat)} : gPb (ga_12 q) := gPb_new (N := 7) gb_11 rfl (by decide)
theorem gb_13 {q : ((Int → Int) × Nat)} : gPb (ga_13 q) := gPb_wr gb_12 (by decide) ⟨by decide, by decide⟩
theorem gb_14 {q : ((Int → Int) × Nat)} : gPb (ga_14 q) := gPb_new (N := 8) gb_13 rfl (by decide)
theorem gb_15 {q : ((Int → Int) × Nat)} : gPb (ga_15 q) := gPb_wr gb_14 (by decide) ⟨by decide, by decide⟩
theorem gb_16 {q : ((Int → Int) × Nat)} : gPb (ga_16 q) := gPb_new (N := 9) gb_15 rfl (by decide)
theorem gb_17 {q : ((Int → Int) × Nat)} : gPb (ga_17 q) := gPb_wr gb_16 (by decide) ⟨by decide, by decide⟩
theorem gb_18 {q : ((Int → Int) × Nat)} : gPb (ga_18 q) := gPb_new (N := 10) gb_17 rfl (by decide)
theorem gb_19 {q : ((Int → Int) × Nat)} : gPb (ga_19 q) := gPb_new (N := 11) gb_18 rfl (by decide)
theorem gb_20 {q : ((Int → Int) × Nat)} : gPb (ga_20 q) := gPb_wr gb_19 (by decide) ⟨by decide, by decide⟩
theorem gb_21 {q : ((Int → Int) × Nat)} : gPb (ga_21 q) := gPb_new (N := 12) gb_20 rfl (by decide)
theorem gb_22 {q : ((Int → Int) × Nat)} : gPb (ga_22 q) := gPb_wr gb_21 (by decide) ⟨by decide, by decide⟩
theorem gb_23 {q : ((Int → Int) × Nat)} : gPb (ga_23 q) := gPb_new (N := 13) gb_22 rfl (by decide)
theorem gb_24 {q : ((Int → Int) × Nat)} : gPb (ga_24 q) := gPb_wr gb_23 (by decide) ⟨by decide, by decide⟩
theorem gb_25 {q : ((Int → Int) × Nat)} : gPb (ga_25 q) := gPb_new (N := 14) gb_24 rfl (by decide)
theorem gb_26 {q : ((Int → Int) × Nat)} : gPb (ga_26 q) := gPb_wr gb_25 (by decide) ⟨by decide, by decide⟩
theorem gb_27 {q : ((Int → Int) × Nat)} : gPb (ga_27 q) := gPb_new (N := 15) gb_26 rfl (by decide)
theorem gb_28 {q : ((Int → Int) × Nat)} : gPb (ga_28 q) := gPb_wr gb_27 (by decide) ⟨by decide, by decide⟩
theorem gb_29 {q : ((Int → Int) × Nat)} : gPb (ga_29 q) := gPb_wr gb_28 (by decide) ⟨by decide, by decide⟩
theorem gb_30 {q : ((Int → Int) × Nat)} : gPb (ga_30 q) := gPb_new (N := 16) gb_29 rfl (by decide)
theorem gb_31 {q : ((Int → Int) × Nat)} : gPb (ga_31 q) := gPb_new (N := 17) gb_30 rfl (by decide)
theorem gb_32 {q : ((Int → Int) × Nat)} : gPb (ga_32 q) := gPb_wr gb_31 (by decide) ⟨by decide, by decide⟩
theorem gb_33 {q : ((Int → Int) × Nat)} : gPb (ga_33 q) := gPb_new (N := 18) gb_32 rfl (by decide)
theorem gb_34 {q : ((Int → Int) × Nat)} : gPb (ga_34 q) := gPb_wr gb_33 (by decide) ⟨by decide, by decide⟩
theorem gb_35 {q : ((Int → Int) × Nat)} : gPb (ga_35 q) := gPb_wr gb_34 (by decide) ⟨by decide, by decide⟩
theorem gb_36 {q : ((Int → Int) × Nat)} : gPb (ga_36 q) := gPb_wr gb_35 (by decide) ⟨by decide, by decide⟩
theorem gb_37 {q : ((Int → Int) × Nat)} : gPb (ga_37 q) := gPb_new (N := 19) gb_36 rfl (by decide)
theorem gb_38 {q : ((Int → Int) × Nat)} : gPb (ga_38 q) := gPb_new (N := 20) gb_37 rfl (by decide)
theorem gb_39 {q : ((Int → Int) × Nat)} : gPb (ga_39 q) := gPb_new (N := 21) gb_38 rfl (by decide)
theorem gb_40 {q : ((Int → Int) × Nat)} : gPb (ga_40 q) := gPb_wr gb_39 (by decide) ⟨by decide, by decide⟩
theorem gb_41 {q : ((Int → Int) × Nat)} : gPb (ga_41 q) := gPb_new (N := 22) gb_40 rfl (by decide)
theorem gb_42 {q : ((Int → Int) × Nat)} : gPb (ga_42 q) := gPb_wr gb_41 (by decide) ⟨by decide, by decide⟩
theorem gb_43 {q : ((Int → Int) × Nat)} : gPb (ga_43 q) := gPb_wr gb_42 (by decide) ⟨by decide, by decide⟩
theorem gb_44 {q : ((Int → Int) × Nat)} : gPb (ga_44 q) := gPb_new (N := 23) gb_43 rfl (by decide)
theorem gb_45 {q : ((Int → Int) × Nat)} : gPb (ga_45 q) := gPb_new (N := 24) gb_44 rfl (by decide)
theorem gb_46 {q : ((Int → Int) × Nat)} : gPb (ga_46 q) := gPb_wr gb_45 (by decide) ⟨by decide, by decide⟩
theorem gb_47 {q : ((Int → Int) × Nat)} : gPb (ga_47 q) := gPb_wr gb_46 (by decide) ⟨by decide, by decide⟩
theorem gb_48 {q : ((Int → Int) × Nat)} : gPb (ga_48 q) := gPb_wr gb_47 (by decide) ⟨by decide, by decide⟩
theorem gb_49 {q : ((Int → Int) × Nat)} : gPb (ga_49 q) := gPb_new (N := 25) gb_48 rfl (by decide)
theorem gb_50 {q : ((Int → Int) × Nat)} : gPb (ga_50 q) := gPb_new (N := 26) gb_49 rfl (by decide)
theorem gb_51 {q : ((Int → Int) × Nat)} : gPb (ga_51 q) := gPb_wr gb_50 (by decide) ⟨by decide, by decide⟩
theorem gb_52 {q : ((Int → Int) × Nat)} : gPb (ga_52 q) := gPb_new (N := 27) gb_51 rfl (by decide)
theorem gb_53 {q : ((Int → Int) × Nat)} : gPb (ga_53 q) := gPb_wr gb_52 (by decide) ⟨by decide, by decide⟩
theorem gb_54 {q : ((Int → Int) × Nat)} : gPb (ga_54 q) := gPb_new (N := 28) gb_53 rfl (by decide)
theorem gb_55 {q : ((Int → Int) × Nat)} : gPb (ga_55 q) := gPb_wr gb_54 (by decide) ⟨by decide, by decide⟩
theorem gb_56 {q : ((Int → Int) × Nat)} : gPb (ga_56 q) := gPb_new (N := 29) gb_55 rfl (by decide)
theorem gb_57 {q : ((Int → Int) × Nat)} : gPb (ga_57 q) := gPb_wr gb_56 (by decide) ⟨by decide, by decide⟩
theorem gb_58 {q : ((Int → Int) × Nat)} : gPb (ga_58 q) := gPb_new (N := 30) gb_57 rfl (by decide)
theorem gb_59 {q : ((Int → Int) × Nat)} : gPb (ga_59 q) := gPb_wr gb_58 (by decide) ⟨by decide, by decide⟩
theorem gb_60 {q : ((Int → Int) × Nat)} : gPb (ga_60 q) := gPb_wr gb_59 (by decide) ⟨by decide, by decide⟩
theorem gb_61 {q : ((Int → Int) × Nat)} : gPb (ga_61 q) := gPb_new (N := 31) gb_60 rfl (by decide)
theorem gb_62 {q : ((Int → Int) × Nat)} : gPb (ga_62 q) := gPb_new (N := 32) gb_61 rfl (by decide)
theorem gb_63 {q : ((Int → Int) × Nat)} : gPb (ga_63 q) := gPb_wr gb_62 (by decide) ⟨by decide, by decide⟩
theorem gb_64 {q : ((Int → Int) × Nat)} : gPb (ga_64 q) := gPb_new (N := 33) gb_63 rfl (by decide)
theorem gb_65 {q : ((Int → Int) × Nat)} : gPb (ga_65 q) := gPb_wr gb_64 (by decide) ⟨by decide, by decide⟩
theorem gb_66 {q : ((Int → Int) × Nat)} : gPb (ga_66 q) := gPb_wr gb_65 (by decide) ⟨by decide, by decide⟩
theorem gb_67 {q : ((Int → Int) × Nat)} : gPb (ga_67 q) := gPb_wr gb_66 (by decide) ⟨by decide, by decide⟩
theorem gb_68 {q : ((Int → Int) × Nat)} : gPb (ga_68 q) := gPb_wr gb_67 (by decide) ⟨by decide, by decide⟩
theorem gb_69 {q : ((Int → Int) × Nat)} : gPb (ga_69 q) := gPb_wr gb_68 (by decide) ⟨by decide, by decide⟩
theorem gb_70 {q : ((Int → Int) × Nat)} : gPb (ga_70 q) := gPb_new (N := 34) gb_69 rfl (by decide)
theorem gb_71 {q : ((Int → Int) × Nat)} : gPb (ga_71 q) := gPb_wr gb_70 (by decide) ⟨by decide, by decide⟩
theorem gb_72 {q : ((Int → Int) × Nat)} : gPb (ga_72 q) := gPb_new (N := 35) gb_71 rfl (by decide)
theorem gb_73 {q : ((Int → Int) × Nat)} : gPb (ga_73 q) := gPb_new (N := 36) gb_72 rfl (by decide)
theorem gb_74 {q : ((Int → Int) × Nat)} : gPb (ga_74 q) := gPb_wr gb_73 (by decide) ⟨by decide, by decide⟩
theorem gb_75 {q : ((Int → Int) × Nat)} : gPb (ga_75 q) := gPb_new (N := 37) gb_74 rfl (by decide)
theorem gb_76 {q : ((Int → Int) × Nat)} : gPb (ga_76 q) := gPb_wr gb_75 (by decide) ⟨by decide, by decide⟩
theorem gb_77 {q : ((Int → Int) × Nat)} : gPb (ga_77 q) := gPb_new (N := 38) gb_76 rfl (by decide)
theorem gb_78 {q : ((Int → Int) × Nat)} : gPb (ga_78 q) := gPb_wr gb_77 (by decide) ⟨by decide, by decide⟩
theorem gb_79 {q : ((Int → Int) × Nat)} : gPb (ga_79 q) := gPb_new (N := 39) gb_78 rfl (by decide)
theorem gb_80 {q : ((Int → Int) × Nat)} : gPb (ga_80 q) := gPb_new (N := 40) gb_79 rfl (by decide)
theorem gb_81 {q : ((Int → Int) × Nat)} : gPb (ga_81 q) := gPb_wr gb_80 (by decide) ⟨by decide, by decide⟩
theorem gb_82 {q : ((Int → Int) × Nat)} : gPb (ga_82 q) := gPb_new (N := 41) gb_81 rfl (by decide)
theorem gb_83 {q : ((Int → Int) × Nat)} : gPb (ga_83 q) := gPb_wr gb_82 (by decide) ⟨by decide, by decide⟩
theorem gb_84 {q : ((Int → Int) × Nat)} : gPb (ga_84 q) := gPb_new (N := 42) gb_83 rfl (by decide)
theorem gb_85 {q : ((Int → Int) × Nat)} : gPb (ga_85 q) := gPb_wr gb_84 (by decide) ⟨by decide, by decide⟩
theorem gb_86 {q : ((Int → Int) × Nat)} : gPb (ga_86 q) := gPb_new (N := 43) gb_85 rfl (by decide)
theorem gb_87 {q : ((Int → Int) × Nat)} : gPb (ga_87 q) := gPb_wr gb_86 (by decide) ⟨by decide, by decide⟩
theorem gb_88 {q : ((Int → Int) × Nat)} : gPb (ga_88 q) := gPb_new (N := 44) gb_87 rfl (by decide)
theorem gb_89 {q : ((Int → Int) × Nat)} : gPb (ga_89 q) := gPb_wr gb_88 (by decide) ⟨by decide, by decide⟩
theorem gb_90 {q : ((Int → Int) × Nat)} : gPb (ga_90 q) := gPb_wr gb_89 (by decide) ⟨by decide, by decide⟩
theorem gb_91 {q : ((Int → Int) × Nat)} : gPb (ga_91 q) := gPb_new (N := 45) gb_90 rfl (by decide)
theorem gb_92 {q : ((Int → Int) × Nat)} : gPb (ga_92 q) := gPb_new (N := 46) gb_91 rfl (by decide)
theorem gb_93 {q : ((Int → Int) × Nat)} : gPb (ga_93 q) := gPb_wr gb_92 (by decide) ⟨by decide, by decide⟩
theorem gb_94 {q : ((Int → Int) × Nat)} : gPb (ga_94 q) := gPb_new (N := 47) gb_93 rfl (by decide)
theorem gb_95 {q : ((Int → Int) × Nat)} : gPb (ga_95 q) := gPb_wr gb_94 (by decide) ⟨by decide, by decide⟩
theorem gb_96 {q : ((Int → Int) × Nat)} : gPb (ga_96 q) := gPb_wr gb_95 (by decide) ⟨by decide, by decide⟩
theorem gb_97 {q : ((Int → Int) × Nat)} : gPb (ga_97 q) := gPb_wr gb_96 (by decide) ⟨by decide, by decide⟩
theorem gb_98 {q : ((Int → Int) × Nat)} : gPb (ga_98 q) := gPb_wr gb_97 (by decide) ⟨by decide, by decide⟩
theorem gb_99 {q : ((Int → Int) × Nat)} : gPb (ga_99 q) := gPb_new (N := 48) gb_98 rfl (by decide)
theorem gb_100 {q : ((Int → Int) × Nat)} : gPb (ga_100 q) := gPb_new (N := 49) gb_99 rfl (by decide)
theorem gb_101 {q : ((Int → Int) × Nat)} : gPb (ga_101 q) := gPb_wr gb_100 (by decide) ⟨by decide, by decide⟩
theorem gb_102 {q : ((Int → Int) × Nat)} : gPb (ga_102 q) := gPb_new (N := 50) gb_101 rfl (by decide)
theorem gb_103 {q : ((Int → Int) × Nat)} : gPb (ga_103 q) := gPb_wr gb_102 (by decide) ⟨by decide, by decide⟩
theorem gb_104 {q : ((Int → Int) × Nat)} : gPb (ga_104 q) := gPb_new (N := 51) gb_103 rfl (by decide)
theorem gb_105 {q : ((Int → Int) × Nat)} : gPb (ga_105 q) := gPb_wr gb_104 (by decide) ⟨by decide, by decide⟩
theorem gb_106 {q : ((Int → Int) × Nat)} : gPb (ga_106 q) := gPb_new (N := 52) gb_105 rfl (by decide)
theorem gb_107 {q : ((Int → Int) × Nat)} : gPb (ga_107 q) := gPb_new (N := 53) gb_106 rfl (by decide)
theorem gb_108 {q : ((Int → Int) × Nat)} : gPb (ga_108 q) := gPb_wr gb_107 (by decide) ⟨by decide, by decide⟩
theorem gb_109 {q : ((Int → Int) × Nat)} : gPb (ga_109 q) := gPb_new (N := 54) gb_108 rfl (by decide)
theorem gb_110 {q : ((Int → Int) × Nat)} : gPb (ga_110 q) := gPb_wr gb_109 (by decide) ⟨by decide, by decide⟩
theorem gb_111 {q : ((Int → Int) × Nat)} : gPb (ga_111 q) := gPb_new (N := 55) gb_110 rfl (by decide)
theorem gb_112 {q : ((Int → Int) × Nat)} : gPb (ga_112 q) := gPb_wr gb_111 (by decide) ⟨by decide, by decide⟩
theorem gb_113 {q : ((Int → Int) × Nat)} : gPb (ga_113 q) := gPb_new (N := 56) gb_112 rfl (by decide)
theorem gb_114 {q : ((Int → Int) × Nat)} : gPb (ga_114 q) := gPb_wr gb_113 (by decide) ⟨by decide, by decide⟩
theorem gb_115 {q : ((Int → Int) × Nat)} : gPb (ga_115 q) := gPb_new (N := 57) gb_114 rfl (by decide)
theorem gb_116 {q : ((Int → Int) × Nat)} : gPb (ga_116 q) := gPb_wr gb_115 (by decide) ⟨by decide, by decide⟩
theorem gb_117 {q : ((Int → Int) × Nat)} : gPb (ga_117 q) := gPb_wr gb_116 (by decide) ⟨by decide, by decide⟩
theorem gb_118 {q : ((Int → Int) × Nat)} : gPb (ga_118 q) := gPb_new (N := 58) gb_117 rfl (by decide)
theorem gb_119 {q : ((Int → Int) × Nat)} : gPb (ga_119 q) := gPb_new (N := 59) gb_118 rfl (by decide)
theorem gb_120 {q : ((Int → Int) × Nat)} : gPb (ga_120 q) := gPb_wr gb_119 (by decide) ⟨by decide, by decide⟩
theorem gb_121 {q : ((Int → Int) × Nat)} : gPb (ga_121 q) := gPb_new (N := 60) gb_120 rfl (by decide)
theorem gb_122 {q : ((Int → Int) × Nat)} : gPb (ga_122 q) := gPb_wr gb_121 (by decide) ⟨by decide, by decide⟩
theorem gb_123 {q : ((Int → Int) × Nat)} : gPb (ga_123 q) := gPb_wr gb_122 (by decide) ⟨by decide, by decide⟩
theorem gb_124 {q : ((Int → Int) × Nat)} : gPb (ga_124 q) := gPb_wr gb_123 (by decide) ⟨by decide, by decide⟩
theorem gb_125 {q : ((Int → Int) × Nat)} : gPb (ga_125 q) := gPb_wr gb_124 (by decide) ⟨by decide, by decide⟩
theorem gb_126 {q : ((Int → Int) × Nat)} : gPb (ga_126 q) := gPb_new (N := 61) gb_125 rfl (by decide)
theorem gb_127 {q : ((Int → Int) × Nat)} : gPb (ga_127 q) := gPb_new (N := 62) gb_126 rfl (by decide)
theorem gb_128 {q : ((Int → Int) × Nat)} : gPb (ga_128 q) := gPb_wr gb_127 (by decide) ⟨by decide, by decide⟩
theorem gb_129 {q : ((Int → Int) × Nat)} : gPb (ga_129 q) := gPb_new (N := 63) gb_128 rfl (by decide)
theorem gb_130 {q : ((Int → Int) × Nat)} : gPb (ga_130 q) := gPb_wr gb_129 (by decide) ⟨by decide, by decide⟩
theorem gb_131 {q : ((Int → Int) × Nat)} : gPb (ga_131 q) := gPb_new (N := 64) gb_130 rfl (by decide)
theorem gb_132 {q : ((Int → Int) × Nat)} : gPb (ga_132 q) := gPb_wr gb_131 (by decide) ⟨by decide, by decide⟩
theorem gb_133 {q : ((Int → Int) × Nat)} : gPb (ga_133 q) := gPb_new (N := 65) gb_132 rfl (by decide)
theorem gb_134 {q : ((Int → Int) × Nat)} : gPb (ga_134 q) := gPb_new (N := 66) gb_133 rfl (by decide)
theorem gb_135 {q : ((Int → Int) × Nat)} : gPb (ga_135 q) := gPb_wr gb_134 (by decide) ⟨by decide, by decide⟩
theorem gb_136 {q : ((Int → Int) × Nat)} : gPb (ga_136 q) := gPb_new (N := 67) gb_135 rfl (by decide)
theorem gb_137 {q : ((Int → Int) × Nat)} : gPb (ga_137 q) := gPb_wr gb_136 (by decide) ⟨by decide, by decide⟩
theorem gb_138 {q : ((Int → Int) × Nat)} : gPb (ga_138 q) := gPb_new (N := 68) gb_137 rfl (by decide)
theorem gb_139 {q : ((Int → Int) × Nat)} : gPb (ga_139 q) := gPb_wr gb_138 (by decide) ⟨by decide, by decide⟩
theorem gb_140 {q : ((Int → Int) × Nat)} : gPb (ga_140 q) := gPb_new (N := 69) gb_139 rfl (by decide)
theorem gb_141 {q : ((Int → Int) × Nat)} : gPb (ga_141 q) := gPb_wr gb_140 (by decide) ⟨by decide, by decide⟩
theorem gb_142 {q : ((Int → Int) × Nat)} : gPb (ga_142 q) := gPb_new (N := 70) gb_141 rfl (by decide)
theorem gb_143 {q : ((Int → Int) × Nat)} : gPb (ga_143 q) := gPb_wr gb_142 (by decide) ⟨by decide, by decide⟩
theorem gb_144 {q : ((Int → Int) × Nat)} : gPb (ga_144 q) := gPb_wr gb_143 (by decide) ⟨by decide, by decide⟩
theorem gb_145 {q : ((Int → Int) × Nat)} : gPb (ga_145 q) := gPb_new (N := 71) gb_144 rfl (by decide)
theorem gb_146 {q : ((Int → Int) × Nat)} : gPb (ga_146 q) := gPb_new (N := 72) gb_145 rfl (by decide)
theorem gb_147 {q : ((Int → Int) × Nat)} : gPb (ga_147 q) := gPb_wr gb_146 (by decide) ⟨by decide, by decide⟩
theorem gb_148 {q : ((Int → Int) × Nat)} : gPb (ga_148 q) := gPb_new (N := 73) gb_147 rfl (by decide)
theorem gb_149 {q : ((Int → Int) × Nat)} : gPb (ga_149 q) := gPb_wr gb_148 (by decide) ⟨by decide, by decide⟩
theorem gb_150 {q : ((Int → Int) × Nat)} : gPb (ga_150 q) := gPb_wr gb_149 (by decide) ⟨by decide, by decide⟩
theorem gb_151 {q : ((Int → Int) × Nat)} : gPb (ga_151 q) := gPb_wr gb_150 (by decide) ⟨by decide, by decide⟩
theorem gb_152 {q : ((Int → Int) × Nat)} : gPb (ga_152 q) := gPb_wr gb_151 (by decide) ⟨by decide, by decide⟩
theorem gb_153 {q : ((Int → Int) × Nat)} : gPb (ga_153 q) := gPb_new (N := 74) gb_152 rfl (by decide)
theorem gb_154 {q : ((Int → Int) × Nat)} : gPb (ga_154 q) := gPb_new (N := 75) gb_153 rfl (by decide)
theorem gb_155 {q : ((Int → Int) × Nat)} : gPb (ga_155 q) := gPb_wr gb_154 (by decide) ⟨by decide, by decide⟩
theorem gb_156 {q : ((Int → Int) × Nat)} : gPb (ga_156 q) := gPb_new (N := 76) gb_155 rfl (by decide)
theorem gb_157 {q : ((Int → Int) × Nat)} : gPb (ga_157 q) := gPb_wr gb_156 (by decide) ⟨by decide, by decide⟩
theorem gb_158 {q : ((Int → Int) × Nat)} : gPb (ga_158 q) := gPb_new (N := 77) gb_157 rfl (by decide)
theorem gb_159 {q : ((Int → Int) × Nat)} : gPb (ga_159 q) := gPb_wr gb_158 (by decide) ⟨by decide, by decide⟩
theorem gb_160 {q : ((Int → Int) × Nat)} : gPb (ga_160 q) := gPb_new (N := 78) gb_159 rfl (by decide)
theorem gb_161 {q : ((Int → Int) × Nat)} : gPb (ga_161 q) := gPb_new (N := 79) gb_160 rfl (by decide)
theorem gb_162 {q : ((Int → Int) × Nat)} : gPb (ga_162 q) := gPb_wr gb_161 (by decide) ⟨by decide, by decide⟩
theorem gb_163 {q : ((Int → Int) × Nat)} : gPb (ga_163 q) := gPb_new (N := 80) gb_162 rfl (by decide)
theorem gb_164 {q : ((Int → Int) × Nat)} : gPb (ga_164 q) := gPb_wr gb_163 (by decide) ⟨by decide, by decide⟩
theorem gb_165 {q : ((Int → Int) × Nat)} : gPb (ga_165 q) := gPb_new (N := 81) gb_164 rfl (by decide)
theorem gb_166 {q : ((Int → Int) × Nat)} : gPb (ga_166 q) := gPb_wr gb_165 (by decide) ⟨by decide, by decide⟩
theorem gb_167 {q : ((Int → Int) × Nat)} : gPb (ga_167 q) := gPb_new (N := 82) gb_166 rfl (by decide)
theorem gb_168 {q : ((Int → Int) × Nat)} : gPb (ga_168 q) := gPb_wr gb_167 (by decide) ⟨by decide, by decide⟩
theorem gb_169 {q : ((Int → Int) × Nat)} : gPb (ga_169 q) := gPb_new (N := 83) gb_168 rfl (by decide)
theorem gb_170 {q : ((Int → Int) × Nat)} : gPb (ga_170 q) := gPb_wr gb_169 (by decide) ⟨by decide, by decide⟩
theorem gb_171 {q : ((Int → Int) × Nat)} : gPb (ga_171 q) := gPb_wr gb_170 (by decide) ⟨by decide, by decide⟩
theorem gb_172 {q : ((Int → Int) × Nat)} : gPb (ga_172 q) := gPb_new (N := 84) gb_171 rfl (by decide)
theorem gb_173 {q : ((Int → Int) × Nat)} : gPb (ga_173 q) := gPb_new (N := 85) gb_172 rfl (by decide)
theorem gb_174 {q : ((Int → Int) × Nat)} : gPb (ga_174 q) := gPb_wr gb_173 (by decide) ⟨by decide, by decide⟩
theorem gb_175 {q : ((Int → Int) × Nat)} : gPb (ga_175 q) := gPb_new (N := 86) gb_174 rfl (by decide)
theorem gb_176 {q : ((Int → Int) × Nat)} : gPb (ga_176 q) := gPb_wr gb_175 (by decide) ⟨by decide, by decide⟩
theorem gb_177 {q : ((Int → Int) × Nat)} : gPb (ga_177 q) := gPb_wr gb_176 (by decide) ⟨by decide, by decide⟩
theorem gb_178 {q : ((Int → Int) × Nat)} : gPb (ga_178 q) := gPb_wr gb_177 (by decide) ⟨by decide, by decide⟩
theorem gb_179 {q : ((Int → Int) × Nat)} : gPb (ga_179 q) := gPb_wr gb_178 (by decide) ⟨by decide, by decide⟩
theorem gb_180 {q : ((Int → Int) × Nat)} : gPb (ga_180 q) := gPb_new (N := 87) gb_179 rfl (by decide)
theorem gb_181 {q : ((Int → Int) × Nat)} : gPb (ga_181 q) := gPb_wr gb_180 (by decide) ⟨by decide, by decide⟩
theorem gb_182 {q : ((Int → Int) × Nat)} : gPb (ga_182 q) := gPb_new (N := 88) gb_181 rfl (by decide)
theorem gb_183 {q : ((Int → Int) × Nat)} : gPb (ga_183 q) := gPb_new (N := 89) gb_182 rfl (by decide)
theorem gb_184 {q : ((Int → Int) × Nat)} : gPb (ga_184 q) := gPb_wr gb_183 (by decide) ⟨by decide, by decide⟩
theorem gb_185 {q : ((Int → Int) × Nat)} : gPb (ga_185 q) := gPb_new (N := 90) gb_184 rfl (by decide)
theorem gb_186 {q : ((Int → Int) × Nat)} : gPb (ga_186 q) := gPb_wr gb_185 (by decide) ⟨by decide, by decide⟩
theorem gb_187 {q : ((Int → Int) × Nat)} : gPb (ga_187 q) := gPb_new (N := 91) gb_186 rfl (by decide)
theorem gb_188 {q : ((Int → Int) × Nat)} : gPb (ga_188 q) := gPb_wr gb_187 (by decide) ⟨by decide, by decide⟩
theorem gb_189 {q : ((Int → Int) × Nat)} : gPb (ga_189 q) := gPb_wr gb_188 (by decide) ⟨by decide, by decide⟩
theorem gb_190 {q : ((Int → Int) × Nat)} : gPb (ga_190 q) := gPb_wr gb_189 (by decide) ⟨by decide, by decide⟩
theorem gb_191 {q : ((Int → Int) × Nat)} : gPb (ga_191 q) := gPb_wr gb_190 (by decide) ⟨by decide, by decide⟩
theorem gb_192 {q : ((Int → Int) × Nat)} : gPb (ga_192 q) := gPb_new (N := 92) gb_191 rfl (by decide)
theorem gb_193 {q : ((Int → Int) × Nat)} : gPb (ga_193 q) := gPb_new (N := 93) gb_192 rfl (by decide)
theorem gb_194 {q : ((Int → Int) × Nat)} : gPb (ga_194 q) := gPb_wr gb_193 (by decide) ⟨by decide, by decide⟩
theorem gb_195 {q : ((Int → Int) × Nat)} : gPb (ga_195 q) := gPb_new (N := 94) gb_194 rfl (by decide)
theorem gb_196 {q : ((Int → Int) × Nat)} : gPb (ga_196 q) := gPb_wr gb_195 (by decide) ⟨by decide, by decide⟩
theorem gb_197 {q : ((Int → Int) × Nat)} : gPb (ga_197 q) := gPb_new (N := 95) gb_196 rfl (by decide)
theorem gb_198 {q : ((Int → Int) × Nat)} : gPb (ga_198 q) := gPb_wr gb_197 (by decide) ⟨by decide, by decide⟩
theorem gb_199 {q : ((Int → Int) × Nat)} : gPb (ga_199 q) := gPb_wr gb_198 (by decide) ⟨by decide, by decide⟩
theorem gb_200 {q : ((Int → Int) × Nat)} : gPb (ga_200 q) := gPb_wr gb_199 (by decide) ⟨by decide, by decide⟩
theorem gb_201 {q : ((Int → Int) × Nat)} : gPb (ga_201 q) := gPb_wr gb_200 (by decide) ⟨by decide, by decide⟩
theorem gb_202 {q : ((Int → Int) × Nat)} : gPb (ga_202 q) := gPb_wr gb_201 (by decide) ⟨by decide, by decide⟩
theorem gb_203 {q : ((Int → Int) × Nat)} : gPb (ga_203 q) := gPb_new (N := 96) gb_202 rfl (by decide)
theorem gb_204 {q : ((Int → Int) × Nat)} : gPb (ga_204 q) := gPb_new (N := 97) gb_203 rfl (by decide)
theorem gb_205 {q : ((Int → Int) × Nat)} : gPb (ga_205 q) := gPb_wr gb_204 (by decide) ⟨by decide, by decide⟩
theorem gb_206 {q : ((Int → Int) × Nat)} : gPb (ga_206 q) := gPb_wr gb_205 (by decide) ⟨by decide, by decide⟩
theorem gb_207 {q : ((Int → Int) × Nat)} : gPb (ga_207 q) := gPb_wr gb_206 (by decide) ⟨by decide, by decide⟩
theorem gb_208 {q : ((Int → Int) × Nat)} : gPb (ga_208 q) := gPb_wr gb_207 (by decide) ⟨by decide, by decide⟩
theorem gb_209 {q : ((Int → Int) × Nat)} : gPb (ga_209 q) := gPb_wr gb_208 (by decide) ⟨by decide, by decide⟩
theorem gb_210 {q : ((Int → Int) × Nat)} : gPb (ga_210 q) := gPb_wr gb_209 (by decide) ⟨by decide, by decide⟩
theorem gb_211 {q : ((Int → Int) × Nat)} : gPb (ga_211 q) := gPb_new (N := 98) gb_210 rfl (by decide)
theorem gb_212 {q : ((Int → Int) × Nat)} : gPb (ga_212 q) := gPb_new (N := 99) gb_211 rfl (by decide)
theorem gb_213 {q : ((Int → Int) × Nat)} : gPb (ga_213 q) := gPb_wr gb_212 (by decide) ⟨by decide, by decide⟩
theorem gb_214 {q : ((Int → Int) × Nat)} : gPb (ga_214 q) := gPb_new (N := 100) gb_213 rfl (by decide)
theorem gb_215 {q : ((Int → Int) × Nat)} : gPb (ga_215 q) := gPb_wr gb_214 (by decide) ⟨by decide, by decide⟩
theorem gb_216 {q : ((Int → Int) × Nat)} : gPb (ga_216 q) := gPb_wr gb_215 (by decide) ⟨by decide, by decide⟩
theorem gb_217 {q : ((Int → Int) × Nat)} : gPb (ga_217 q) := gPb_wr gb_216 (by decide) ⟨by decide, by decide⟩
theorem gb_218 {q : ((Int → Int) × Nat)} : gPb (ga_218 q) := gPb_wr gb_217 (by decide) ⟨by decide, by decide⟩
theorem gb_219 {q : ((Int → Int) × Nat)} : gPb (ga_219 q) := gPb_new (N := 101) gb_218 rfl (by decide)
theorem gb_220 {q : ((Int → Int) × Nat)} : gPb (ga_220 q) := gPb_new (N := 102) gb_219 rfl (by decide)
theorem gb_221 {q : ((Int → Int) × Nat)} : gPb (ga_221 q) := gPb_wr gb_220 (by decide) ⟨by decide, by decide⟩
theorem gb_222 {q : ((Int → Int) × Nat)} : gPb (ga_222 q) := gPb_new (N := 103) gb_221 rfl (by decide)
theorem gb_223 {q : ((Int → Int) × Nat)} : gPb (ga_223 q) := gPb_wr gb_222 (by decide) ⟨by decide, by decide⟩
theorem gb_224 {q : ((Int → Int) × Nat)} : gPb (ga_224 q) := gPb_new (N := 104) gb_223 rfl (by decide)
theorem gb_225 {q : ((Int → Int) × Nat)} : gPb (ga_225 q) := gPb_wr gb_224 (by decide) ⟨by decide, by decide⟩
theorem gb_226 {q : ((Int → Int) × Nat)} : gPb (ga_226 q) := gPb_new (N := 105) gb_225 rfl (by decide)
theorem gb_227 {q : ((Int → Int) × Nat)} : gPb (ga_227 q) := gPb_wr gb_226 (by decide) ⟨by decide, by decide⟩
theorem gb_228 {q : ((Int → Int) × Nat)} : gPb (ga_228 q) := gPb_new (N := 106) gb_227 rfl (by decide)
theorem gb_229 {q : ((Int → Int) × Nat)} : gPb (ga_229 q) := gPb_wr gb_228 (by decide) ⟨by decide, by decide⟩
theorem gb_230 {q : ((Int → Int) × Nat)} : gPb (ga_230 q) := gPb_new (N := 107) gb_229 rfl (by decide)
theorem gb_231 {q : ((Int → Int) × Nat)} : gPb (ga_231 q) := gPb_wr gb_230 (by decide) ⟨by decide, by decide⟩
theorem gb_232 {q : ((Int → Int) × Nat)} : gPb (ga_232 q) := gPb_new (N := 108) gb_231 rfl (by decide)
theorem gb_233 {q : ((Int → Int) × Nat)} : gPb (ga_233 q) := gPb_wr gb_232 (by decide) ⟨by decide, by decide⟩
theorem gb_234 {q : ((Int → Int) × Nat)} : gPb (ga_234 q) := gPb_new (N := 109) gb_233 rfl (by decide)
theorem gb_235 {q : ((Int → Int) × Nat)} : gPb (ga_235 q) := gPb_wr gb_234 (by decide) ⟨by decide, by decide⟩
theorem gb_236 {q : ((Int → Int) × Nat)} : gPb (ga_236 q) := gPb_new (N := 110) gb_235 rfl (by decide)
theorem gb_237 {q : ((Int → Int) × Nat)} : gPb (ga_237 q) := gPb_wr gb_236 (by decide) ⟨by decide, by decide⟩
theorem gb_238 {q : ((Int → Int) × Nat)} : gPb (ga_238 q) := gPb_new (N := 111) gb_237 rfl (by decide)
theorem gb_239 {q : ((Int → Int) × Nat)} : gPb (ga_239 q) := gPb_wr gb_238 (by decide) ⟨by decide, by decide⟩
theorem gb_240 {q : ((Int → Int) × Nat)} : gPb (ga_240 q) := gPb_new (N := 112) gb_239 rfl (by decide)
theorem gb_241 {q : ((Int → Int) × Nat)} : gPb (ga_241 q) := gPb_wr gb_240 (by decide) ⟨by decide, by decide⟩
theorem gb_242 {q : ((Int → Int) × Nat)} : gPb (ga_242 q) := gPb_new (N := 113) gb_241 rfl (by decide)
theorem gb_243 {q : ((Int → Int) × Nat)} : gPb (ga_243 q) := gPb_wr gb_242 (by decide) ⟨by decide, by decide⟩
theorem gb_244 {q : ((Int → Int) × Nat)} : gPb (ga_244 q) := gPb_new (N := 114) gb_243 rfl (by decide)
theorem gb_245 {q : ((Int → Int) × Nat)} : gPb (ga_245 q) := gPb_wr gb_244 (by decide) ⟨by decide, by decide⟩
theorem gb_246 {q : ((Int → Int) × Nat)} : gPb (ga_246 q) := gPb_new (N := 115) gb_245 rfl (by decide)
theorem gb_247 {q : ((Int → Int) × Nat)} : gPb (ga_247 q) := gPb_wr gb_246 (by decide) ⟨by decide, by decide⟩
theorem gb_248 {q : ((Int → Int) × Nat)} : gPb (ga_248 q) := gPb_new (N := 116) gb_247 rfl (by decide)
theorem gb_249 {q : ((Int → Int) × Nat)} : gPb (ga_249 q) := gPb_wr gb_248 (by decide) ⟨by decide, by decide⟩
theorem gb_250 {q : ((Int → Int) × Nat)} : gPb (ga_250 q) := gPb_new (N := 117) gb_249 rfl (by decide)
theorem gb_251 {q : ((Int → Int) × Nat)} : gPb (ga_251 q) := gPb_wr gb_250 (by decide) ⟨by decide, by decide⟩
theorem gb_252 {q : ((Int → Int) × Nat)} : gPb (ga_252 q) := gPb_new (N := 118) gb_251 rfl (by decide)
theorem gb_253 {q : ((Int → Int) × Nat)} : gPb (ga_253 q) := gPb_wr gb_252 (by decide) ⟨by decide, by decide⟩
theorem gb_254 {q : ((Int → Int) × Nat)} : gPb (ga_254 q) := gPb_new (N := 119) gb_253 rfl (by decide)
theorem gb_255 {q : ((Int → Int) × Nat)} : gPb (ga_255 q) := gPb_wr gb_254 (by decide) ⟨by decide, by decide⟩
theorem gb_256 {q : ((Int → Int) × Nat)} : gPb (ga_256 q) := gPb_new (N := 120) gb_255 rfl (by decide)
theorem gb_257 {q : ((Int → Int) × Nat)} : gPb (ga_257 q) := gPb_wr gb_256 (by decide) ⟨by decide, by decide⟩
theorem gb_258 {q : ((Int → Int) × Nat)} : gPb (ga_258 q) := gPb_new (N := 121) gb_257 rfl (by decide)
theorem gb_259 {q : ((Int → Int) × Nat)} : gPb (ga_259 q) := gPb_wr gb_258 (by decide) ⟨by decide, by decide⟩
theorem gb_260 {q : ((Int → Int) × Nat)} : gPb (ga_260 q) := gPb_new (N := 122) gb_259 rfl (by decide)
theorem gb_261 {q : ((Int → Int) × Nat)} : gPb (ga_261 q) := gPb_wr gb_260 (by decide) ⟨by decide, by decide⟩
theorem gb_262 {q : ((Int → Int) × Nat)} : gPb (ga_262 q) := gPb_new (N := 123) gb_261 rfl (by decide)
theorem gb_263 {q : ((Int → Int) × Nat)} : gPb (ga_263 q) := gPb_wr gb_262 (by decide) ⟨by decide, by decide⟩
theorem gb_264 {q : ((Int → Int) × Nat)} : gPb (ga_264 q) := gPb_new (N := 124) gb_263 rfl (by decide)
theorem gb_265 {q : ((Int → Int) × Nat)} : gPb (ga_265 q) := gPb_wr gb_264 (by decide) ⟨by decide, by decide⟩
theorem gb_266 {q : ((Int → Int) × Nat)} : gPb (ga_266 q) := gPb_new (N := 125) gb_265 rfl (by decide)
theorem gb_267 {q : ((Int → Int) × Nat)} : gPb (ga_267 q) := gPb_wr gb_266 (by decide) ⟨by decide, by decide⟩
def q00 : ((Int → Int) × Nat) := (fun _ => 0, 0)
set_option maxRecDepth 20000 in
theorem ga_P {q : ((Int → Int) × Nat)} : (ga_267 q).1 = (ga_267 q00).1 := rfl
set_option maxRecDepth 20000 in
theorem ga_S {q : ((Int → Int) × Nat)} : (ga_267 q).2.1 = (ga_267 q00).2.1 := rfl
set_option maxRecDepth 20000 in
theorem ga_n {q : ((Int → Int) × Nat)} : (ga_267 q).2.2 = (126, q) := rfl
set_option maxRecDepth 20000 in
theorem ga_Sd : (List.range 126).all (fun i => decide ((ga_267 q00).2.1 i = gS0 i)) = true := by decide +kernel
set_option maxRecDepth 20000 in
theorem ga_Pd : (List.range 126).all (fun i => (List.range 43).all (fun j => decide ((ga_267 q00).1 i (j : Int) = cond (Nat.beq i 19) none (gP0 i (j : Int))))) = true := by decide +kernel
theorem gP0_len : (List.range 126).all (fun i => decide (((gP0t.getD (i / 16) []).getD (i % 16) []).length ≤ 43)) = true := by decide +kernel
theorem ga_fin {q : ((Int → Int) × Nat)} : ga_267 q = gG ((0, (fun _ => 0), (fun _ => 0), q) : GD) := by
  have hb := gb_267 (q := q)
  have hP : (ga_267 q).1 = gP ((0, (fun _ => 0), (fun _ => 0), q) : GD) := by
    funext i j
    unfold gP
    by_cases c : i < 126
    · rw [bltT c]
      by_cases c9 : i = 19
      · rw [beqT c9]
        show (ga_267 q).1 i j = if 0 ≤ j ∧ j < ((0 : Nat) : Int) then some (126 + 3 * j.toNat) else none
        rw [if_neg (by omega)]
        by_cases cj : j < 0 ∨ 43 ≤ j
        · exact hb.1 i j (Or.inr cj)
        · have h1 := List.all_eq_true.mp ga_Pd i (List.mem_range.mpr c)
          have h2 := of_decide_eq_true (List.all_eq_true.mp h1 j.toNat (List.mem_range.mpr (by omega)))
          rw [Int.toNat_of_nonneg (by omega), beqT c9] at h2
          rw [ga_P]; exact h2
      · rw [beq_f c9]
        show (ga_267 q).1 i j = if j < 0 then none else gP0 i j
        by_cases c0 : j < 0
        · rw [if_pos c0]; exact hb.1 i j (Or.inr (Or.inl c0))
        · rw [if_neg c0]
          by_cases c4 : 43 ≤ j
          · rw [hb.1 i j (Or.inr (Or.inr c4))]
            have hl := of_decide_eq_true (List.all_eq_true.mp gP0_len i (List.mem_range.mpr c))
            unfold gP0
            rw [List.getD_eq_getElem?_getD, List.getElem?_eq_none (by omega)]
            rfl
          · have h1 := List.all_eq_true.mp ga_Pd i (List.mem_range.mpr c)
            have h2 := of_decide_eq_true (List.all_eq_true.mp h1 j.toNat (List.mem_range.mpr (by omega)))
            rw [Int.toNat_of_nonneg (by omega), beq_f c9] at h2
            rw [ga_P]; exact h2
    · rw [bltF c, bltF (show ¬ i < 126 + 3 * ((0, (fun _ => 0), (fun _ => 0), q) : GD).1 from c)]
      exact hb.1 i j (Or.inl (by omega))
  have hS : (ga_267 q).2.1 = gS ((0, (fun _ => 0), (fun _ => 0), q) : GD) := by
    funext i
    unfold gS
    by_cases c : i < 126
    · rw [bltT c]
      have h1 := of_decide_eq_true (List.all_eq_true.mp ga_Sd i (List.mem_range.mpr c))
      rw [ga_S]; exact h1
    · rw [bltF c, bltF (show ¬ i < 126 + 3 * ((0, (fun _ => 0), (fun _ => 0), q) : GD).1 from c)]
      exact hb.2 i (by omega)
  have e : ga_267 q = ((ga_267 q).1, ((ga_267 q).2.1, (ga_267 q).2.2)) := rfl
  rw [e, hP, hS, ga_n]
  rfl
theorem SO_zero : SO (fun _ => 0) := ⟨⟨by decide, by decide⟩, ⟨by decide, by decide⟩, Or.inl rfl, ⟨by decide, by decide⟩, ⟨by decide, by decide⟩, ⟨by decide, by decide⟩, fun _ _ _ => ⟨by show (-1 : Int) ≤ 0; decide, Or.inr ⟨rfl, rfl⟩⟩, fun _ _ _ => ⟨by show (0 : Int) ≤ 0; decide, by show (0 : Int) ≤ 99; decide⟩, fun _ _ _ => ⟨by show (0 : Int) ≤ 0; decide, by show (0 : Int) ≤ 3; decide⟩, fun _ _ _ => ⟨by show (0 : Int) ≤ 0; decide, by show (0 : Int) ≤ 9; decide⟩, fun _ _ _ => ⟨by show (0 : Int) ≤ 0; decide, by show (0 : Int) ≤ 99; decide⟩, fun _ _ _ => ⟨by show (0 : Int) ≤ 0; decide, by show (0 : Int) ≤ 9; decide⟩⟩
theorem cvw_zero : cvw (fun _ => 0) (fun _ => 0) (fun _ => 0) (fun _ => 0) (fun _ => 0) (fun _ => 0) (fun _ => 0) (fun _ => 0) (fun _ => 0) = fun _ => 0 := by
  funext j
  unfold cvw
  (repeat' split) <;> rfl
theorem R2_zero : R2 (fun _ => 0) (fun _ => 0) (fun _ => 0) (fun _ => 0) (fun _ => 0) (fun _ => 0) (fun _ => 0) (fun _ => 0) (fun _ => 0) (fun _ => 0) := by
  refine ⟨cvw_zero.symm, ⟨by rw [cvw_zero]; exact SO_zero, fun g s g0 g1 => absurd (show g < 0 from g1) (by omega)⟩, by show (0 : Int) ≤ 999; decide, rfl⟩
theorem RB_zero : RB (fun _ => 0) := fun _ => ⟨by show (-2147483648 : Int) ≤ 0; decide, by show (0 : Int) ≤ 2147483647; decide⟩
theorem R7_zero {k : Int} {S F Kd Z Tr Lk Wt T O U N1 N2 N3 Im Fo Xs : Int → Int} {rs : Int} (hF : F 0 = 0) : R7 k 0 0 S F Kd Z Tr Lk Wt T O U N1 N2 N3 Im Fo Xs rs := ⟨rfl, Or.inl rfl, Or.inl hF, fun h => absurd h (by decide)⟩
theorem R3_zero {q : ((Int → Int) × Nat)} {k0 s0 k1 s1 k2 s2 k3 s3 k4 s4 k5 s5 sg cl cn : Int → Int} : R3 0 0 (-1) (-1) ((0, (fun _ => 0), (fun _ => 0), q) : GD) k0 s0 k1 s1 k2 s2 k3 s3 k4 s4 k5 s5 sg cl cn := by
  refine ⟨rfl, rfl, by decide, rfl, ⟨by decide, by show (-1 : Int) < ((0 : Nat) : Int); decide⟩, fun f f0 f1 => ?_, fun f f0 f1 => ?_, fun f f0 f1 => ?_⟩
  · have f1' : f < ((0 : Nat) : Int) := f1
    exact ⟨f0, f1, by decide, fun h => by omega⟩
  · have f1' : f < ((0 : Nat) : Int) := f1
    exact ⟨f0, by omega, fun h => by omega⟩
  · have f1' : f < ((0 : Nat) : Int) := f1
    omega
set_option maxRecDepth 20000 in
theorem REL_start {q : ((Int → Int) × Nat)} : REL ia_132 ((0, (fun _ => 0), (fun _ => 0), q) : GD) := by
  refine ⟨⟨rfl, ⟨by show (0 : Int) ≤ 0; decide, by show (0 : Int) ≤ 400; decide⟩, rfl, fun j j0 j1 => absurd (show j < 0 from j1) (by omega)⟩, R2_zero, R3_zero, ⟨rfl, by show (0 : Int) ≤ 0; decide, by show (0 : Int) < 2147483648; decide⟩, ⟨⟨⟨by show (0 : Int) ≤ 0; decide, by show (0 : Int) ≤ 10; decide⟩, rfl, fun i i0 i1 => absurd (show i < 0 from i1) (by omega)⟩, ⟨⟨by show (0 : Int) ≤ 0; decide, by show (0 : Int) ≤ 10; decide⟩, fun i i0 i1 => ?_⟩, rfl⟩, ⟨rfl, ⟨by show (0 : Int) ≤ 0; decide, by show (0 : Int) ≤ 20; decide⟩, ⟨by show (0 : Int) ≤ 0; decide, by show (0 : Int) < 20; decide⟩, fun i i0 i1 => absurd (show i < 0 from i1) (by omega)⟩, ⟨R7_zero rfl, R7_zero rfl, R7_zero rfl, R7_zero rfl⟩, ⟨fun _ => Or.inl rfl, fun _ => ⟨by show (-1 : Int) ≤ 0; decide, by show (0 : Int) < 5; decide⟩, fun _ => ⟨by show (-1 : Int) ≤ 0; decide, by show (0 : Int) < 5; decide⟩, RB_zero, RB_zero⟩⟩
  exact ⟨⟨by show (0 : Int) ≤ 0; decide, by show (0 : Int) ≤ 60; decide⟩, ⟨by show (0 : Int) ≤ 0; decide, by show (0 : Int) < 10; decide⟩, ⟨by show (-1 : Int) ≤ 0; decide, by show (0 : Int) < 5; decide⟩⟩
theorem law_all {q : ((Int → Int) × Nat)} (hq : q.2 ≤ 3072) (hsc : ∀ j, xrg (q.1 j)) : xR 2048 264 (mE 264) 0 [xt 2, xt 0, xt 0, xt 0] [] (fun _ _ => 0) (fun _ _ => 0) (xG0 q) 600000 7302250 (fun r _ _ _ => r = some (xi 1)) := by
  refine law_start (d := 2048) (by decide) ?_
  rw [ga_fin]
  refine law_loop law_rule (by decide) 513 ⟨by decide, by show (0 : Int) ≤ (q.2 : Int) + 6; omega⟩ (by show (q.2 : Int) ≤ 1000000; omega) (by show (q.2 : Int) - 0 < 6 * (((513 : Nat) : Int) + 1); omega) hsc REL_start (by decide) (by decide)
