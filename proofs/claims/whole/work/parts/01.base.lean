-- ===== PART A: goes FIRST, ahead of the names: the tables' words, and 'selects' of the private methods out of them =====
/-- a private method of a class that the tables say can be made, by its rows of tables_1 -/
def lw_okq (q : MethodName × Nat) : Prop := (q.1.cls ≠ "java/lang/invoke/MethodHandle" ∧ q.1.cls ≠ "java/lang/invoke/VarHandle") ∧ Cond.instantiable q.1.cls q.2 ∈ tables_1 ∧ Cond.privateMethod q.1 ∈ tables_1 ∧ Cond.instanceMethod q.1 ∈ tables_1
theorem lw_p0 : lw_okq (⟨"RueCake$Text", "split", "()V"⟩, 11) := ⟨⟨by decide +kernel, by decide +kernel⟩, List.mem_of_getElem? (i := 31) (by decide +kernel), List.mem_of_getElem? (i := 455) (by decide +kernel), List.mem_of_getElem? (i := 456) (by decide +kernel)⟩
theorem lw_p1 : lw_okq (⟨"RueCake$Text", "byteAt", "(I)I"⟩, 11) := ⟨⟨by decide +kernel, by decide +kernel⟩, List.mem_of_getElem? (i := 31) (by decide +kernel), List.mem_of_getElem? (i := 459) (by decide +kernel), List.mem_of_getElem? (i := 460) (by decide +kernel)⟩
theorem lw_p2 : lw_okq (⟨"RueCake$Text", "splitOff", "(I)I"⟩, 11) := ⟨⟨by decide +kernel, by decide +kernel⟩, List.mem_of_getElem? (i := 31) (by decide +kernel), List.mem_of_getElem? (i := 463) (by decide +kernel), List.mem_of_getElem? (i := 464) (by decide +kernel)⟩
theorem lw_p3 : lw_okq (⟨"RueCake$Text", "splitNumber", "(I)I"⟩, 11) := ⟨⟨by decide +kernel, by decide +kernel⟩, List.mem_of_getElem? (i := 31) (by decide +kernel), List.mem_of_getElem? (i := 470) (by decide +kernel), List.mem_of_getElem? (i := 471) (by decide +kernel)⟩
theorem lw_p4 : lw_okq (⟨"RueCake$Text", "keep", "(III)V"⟩, 11) := ⟨⟨by decide +kernel, by decide +kernel⟩, List.mem_of_getElem? (i := 31) (by decide +kernel), List.mem_of_getElem? (i := 474) (by decide +kernel), List.mem_of_getElem? (i := 475) (by decide +kernel)⟩
theorem lw_p5 : lw_okq (⟨"RueCake$Text", "splitWord", "(I)I"⟩, 11) := ⟨⟨by decide +kernel, by decide +kernel⟩, List.mem_of_getElem? (i := 31) (by decide +kernel), List.mem_of_getElem? (i := 481) (by decide +kernel), List.mem_of_getElem? (i := 482) (by decide +kernel)⟩
theorem lw_p6 : lw_okq (⟨"RueCake$Text", "isName", "(III)Z"⟩, 11) := ⟨⟨by decide +kernel, by decide +kernel⟩, List.mem_of_getElem? (i := 31) (by decide +kernel), List.mem_of_getElem? (i := 496) (by decide +kernel), List.mem_of_getElem? (i := 497) (by decide +kernel)⟩
theorem lw_p7 : lw_okq (⟨"RueCake$Feast", "readClause", "(LRueCake$Text;I)Z"⟩, 10) := ⟨⟨by decide +kernel, by decide +kernel⟩, List.mem_of_getElem? (i := 85) (by decide +kernel), List.mem_of_getElem? (i := 542) (by decide +kernel), List.mem_of_getElem? (i := 543) (by decide +kernel)⟩
theorem lw_p8 : lw_okq (⟨"RueCake$Feast", "readCake", "(LRueCake$Text;)Z"⟩, 10) := ⟨⟨by decide +kernel, by decide +kernel⟩, List.mem_of_getElem? (i := 85) (by decide +kernel), List.mem_of_getElem? (i := 550) (by decide +kernel), List.mem_of_getElem? (i := 551) (by decide +kernel)⟩
theorem lw_p9 : lw_okq (⟨"RueCake$Feast", "readSlice", "(LRueCake$Text;)Z"⟩, 10) := ⟨⟨by decide +kernel, by decide +kernel⟩, List.mem_of_getElem? (i := 85) (by decide +kernel), List.mem_of_getElem? (i := 558) (by decide +kernel), List.mem_of_getElem? (i := 559) (by decide +kernel)⟩
theorem lw_p10 : lw_okq (⟨"RueCake$Feast", "readGuest", "(LRueCake$Text;)Z"⟩, 10) := ⟨⟨by decide +kernel, by decide +kernel⟩, List.mem_of_getElem? (i := 85) (by decide +kernel), List.mem_of_getElem? (i := 562) (by decide +kernel), List.mem_of_getElem? (i := 563) (by decide +kernel)⟩
theorem lw_p11 : lw_okq (⟨"RueCake$Feast", "readLikes", "(LRueCake$Text;)Z"⟩, 10) := ⟨⟨by decide +kernel, by decide +kernel⟩, List.mem_of_getElem? (i := 85) (by decide +kernel), List.mem_of_getElem? (i := 566) (by decide +kernel), List.mem_of_getElem? (i := 567) (by decide +kernel)⟩
theorem lw_p12 : lw_okq (⟨"RueCake$Feast", "weigh", "()V"⟩, 10) := ⟨⟨by decide +kernel, by decide +kernel⟩, List.mem_of_getElem? (i := 85) (by decide +kernel), List.mem_of_getElem? (i := 570) (by decide +kernel), List.mem_of_getElem? (i := 571) (by decide +kernel)⟩
theorem lw_p13 : lw_okq (⟨"RueCake$RuleReader", "readClause", "(I)Z"⟩, 5) := ⟨⟨by decide +kernel, by decide +kernel⟩, List.mem_of_getElem? (i := 266) (by decide +kernel), List.mem_of_getElem? (i := 608) (by decide +kernel), List.mem_of_getElem? (i := 609) (by decide +kernel)⟩
theorem lw_p14 : lw_okq (⟨"RueCake$RuleReader", "readSum", "()Z"⟩, 5) := ⟨⟨by decide +kernel, by decide +kernel⟩, List.mem_of_getElem? (i := 266) (by decide +kernel), List.mem_of_getElem? (i := 614) (by decide +kernel), List.mem_of_getElem? (i := 615) (by decide +kernel)⟩
theorem lw_p15 : lw_okq (⟨"RueCake$RuleReader", "faultOfValue", "()I"⟩, 5) := ⟨⟨by decide +kernel, by decide +kernel⟩, List.mem_of_getElem? (i := 266) (by decide +kernel), List.mem_of_getElem? (i := 618) (by decide +kernel), List.mem_of_getElem? (i := 619) (by decide +kernel)⟩
def lw_privs_1 : List (MethodName × Nat) := [(⟨"RueCake$Text", "split", "()V"⟩, 11), (⟨"RueCake$Text", "byteAt", "(I)I"⟩, 11), (⟨"RueCake$Text", "splitOff", "(I)I"⟩, 11), (⟨"RueCake$Text", "splitNumber", "(I)I"⟩, 11), (⟨"RueCake$Text", "keep", "(III)V"⟩, 11), (⟨"RueCake$Text", "splitWord", "(I)I"⟩, 11), (⟨"RueCake$Text", "isName", "(III)Z"⟩, 11), (⟨"RueCake$Feast", "readClause", "(LRueCake$Text;I)Z"⟩, 10), (⟨"RueCake$Feast", "readCake", "(LRueCake$Text;)Z"⟩, 10), (⟨"RueCake$Feast", "readSlice", "(LRueCake$Text;)Z"⟩, 10), (⟨"RueCake$Feast", "readGuest", "(LRueCake$Text;)Z"⟩, 10), (⟨"RueCake$Feast", "readLikes", "(LRueCake$Text;)Z"⟩, 10), (⟨"RueCake$Feast", "weigh", "()V"⟩, 10), (⟨"RueCake$RuleReader", "readClause", "(I)Z"⟩, 5), (⟨"RueCake$RuleReader", "readSum", "()Z"⟩, 5), (⟨"RueCake$RuleReader", "faultOfValue", "()I"⟩, 5)]
theorem lw_r1 : ∀ q ∈ lw_privs_1, lw_okq q := List.forall_mem_cons.mpr ⟨lw_p0, List.forall_mem_cons.mpr ⟨lw_p1, List.forall_mem_cons.mpr ⟨lw_p2, List.forall_mem_cons.mpr ⟨lw_p3, List.forall_mem_cons.mpr ⟨lw_p4, List.forall_mem_cons.mpr ⟨lw_p5, List.forall_mem_cons.mpr ⟨lw_p6, List.forall_mem_cons.mpr ⟨lw_p7, List.forall_mem_cons.mpr ⟨lw_p8, List.forall_mem_cons.mpr ⟨lw_p9, List.forall_mem_cons.mpr ⟨lw_p10, List.forall_mem_cons.mpr ⟨lw_p11, List.forall_mem_cons.mpr ⟨lw_p12, List.forall_mem_cons.mpr ⟨lw_p13, List.forall_mem_cons.mpr ⟨lw_p14, List.forall_mem_cons.mpr ⟨lw_p15, fun _ h => absurd h List.not_mem_nil⟩⟩⟩⟩⟩⟩⟩⟩⟩⟩⟩⟩⟩⟩⟩⟩
theorem lw_p16 : lw_okq (⟨"RueCake$RuleReader", "codeOfValue", "()I"⟩, 5) := ⟨⟨by decide +kernel, by decide +kernel⟩, List.mem_of_getElem? (i := 266) (by decide +kernel), List.mem_of_getElem? (i := 622) (by decide +kernel), List.mem_of_getElem? (i := 623) (by decide +kernel)⟩
theorem lw_p17 : lw_okq (⟨"RueCake$RuleReader", "put", "(I)V"⟩, 5) := ⟨⟨by decide +kernel, by decide +kernel⟩, List.mem_of_getElem? (i := 266) (by decide +kernel), List.mem_of_getElem? (i := 626) (by decide +kernel), List.mem_of_getElem? (i := 627) (by decide +kernel)⟩
theorem lw_p18 : lw_okq (⟨"RueCake$RuleReader", "readTest", "(I)Z"⟩, 5) := ⟨⟨by decide +kernel, by decide +kernel⟩, List.mem_of_getElem? (i := 266) (by decide +kernel), List.mem_of_getElem? (i := 633) (by decide +kernel), List.mem_of_getElem? (i := 634) (by decide +kernel)⟩
theorem lw_p19 : lw_okq (⟨"RueCake$RuleReader", "readFact", "(I)Z"⟩, 5) := ⟨⟨by decide +kernel, by decide +kernel⟩, List.mem_of_getElem? (i := 266) (by decide +kernel), List.mem_of_getElem? (i := 637) (by decide +kernel), List.mem_of_getElem? (i := 638) (by decide +kernel)⟩
theorem lw_p20 : lw_okq (⟨"RueCake$RuleReader", "readBrackets", "(I)Z"⟩, 5) := ⟨⟨by decide +kernel, by decide +kernel⟩, List.mem_of_getElem? (i := 266) (by decide +kernel), List.mem_of_getElem? (i := 641) (by decide +kernel), List.mem_of_getElem? (i := 642) (by decide +kernel)⟩
theorem lw_p21 : lw_okq (⟨"RueCake$RuleReader", "readComparison", "()Z"⟩, 5) := ⟨⟨by decide +kernel, by decide +kernel⟩, List.mem_of_getElem? (i := 266) (by decide +kernel), List.mem_of_getElem? (i := 645) (by decide +kernel), List.mem_of_getElem? (i := 646) (by decide +kernel)⟩
theorem lw_p22 : lw_okq (⟨"RueCake$Outlook", "ruleOf", "(I)LRueCake$Rule;"⟩, 9) := ⟨⟨by decide +kernel, by decide +kernel⟩, List.mem_of_getElem? (i := 350) (by decide +kernel), List.mem_of_getElem? (i := 717) (by decide +kernel), List.mem_of_getElem? (i := 718) (by decide +kernel)⟩
theorem lw_p23 : lw_okq (⟨"RueCake$Turns", "worthiest", "(LRueCake$Table;II)I"⟩, 3) := ⟨⟨by decide +kernel, by decide +kernel⟩, List.mem_of_getElem? (i := 222) (by decide +kernel), List.mem_of_getElem? (i := 735) (by decide +kernel), List.mem_of_getElem? (i := 736) (by decide +kernel)⟩
theorem lw_p24 : lw_okq (⟨"RueCake$Turns", "canTake", "(LRueCake$Table;II)Z"⟩, 3) := ⟨⟨by decide +kernel, by decide +kernel⟩, List.mem_of_getElem? (i := 222) (by decide +kernel), List.mem_of_getElem? (i := 740) (by decide +kernel), List.mem_of_getElem? (i := 741) (by decide +kernel)⟩
theorem lw_p25 : lw_okq (⟨"RueCake$Turns", "ruledBest", "(LRueCake$Table;ILRueCake$Rule;I)I"⟩, 3) := ⟨⟨by decide +kernel, by decide +kernel⟩, List.mem_of_getElem? (i := 222) (by decide +kernel), List.mem_of_getElem? (i := 749) (by decide +kernel), List.mem_of_getElem? (i := 750) (by decide +kernel)⟩
theorem lw_p26 : lw_okq (⟨"RueCake$Turns", "tellGuest", "(LRueCake$Table;I)V"⟩, 3) := ⟨⟨by decide +kernel, by decide +kernel⟩, List.mem_of_getElem? (i := 222) (by decide +kernel), List.mem_of_getElem? (i := 753) (by decide +kernel), List.mem_of_getElem? (i := 754) (by decide +kernel)⟩
theorem lw_p27 : lw_okq (⟨"RueCake$Turns", "tellSlice", "(LRueCake$Table;II)V"⟩, 3) := ⟨⟨by decide +kernel, by decide +kernel⟩, List.mem_of_getElem? (i := 222) (by decide +kernel), List.mem_of_getElem? (i := 765) (by decide +kernel), List.mem_of_getElem? (i := 766) (by decide +kernel)⟩
theorem lw_p28 : lw_okq (⟨"RueCake$Rule", "run", "(II[J[J)J"⟩, 2) := ⟨⟨by decide +kernel, by decide +kernel⟩, List.mem_of_getElem? (i := 652) (by decide +kernel), List.mem_of_getElem? (i := 778) (by decide +kernel), List.mem_of_getElem? (i := 779) (by decide +kernel)⟩
theorem lw_p29 : lw_okq (⟨"RueCake$Outlook", "goOn", "(ILRueCake$Rule;I)V"⟩, 9) := ⟨⟨by decide +kernel, by decide +kernel⟩, List.mem_of_getElem? (i := 350) (by decide +kernel), List.mem_of_getElem? (i := 848) (by decide +kernel), List.mem_of_getElem? (i := 849) (by decide +kernel)⟩
theorem lw_p30 : lw_okq (⟨"RueCake$Shares", "envies", "(I)Z"⟩, 5) := ⟨⟨by decide +kernel, by decide +kernel⟩, List.mem_of_getElem? (i := 239) (by decide +kernel), List.mem_of_getElem? (i := 882) (by decide +kernel), List.mem_of_getElem? (i := 883) (by decide +kernel)⟩
theorem lw_p31 : lw_okq (⟨"RueCake$Shares", "worthOfSet", "(II)I"⟩, 5) := ⟨⟨by decide +kernel, by decide +kernel⟩, List.mem_of_getElem? (i := 239) (by decide +kernel), List.mem_of_getElem? (i := 897) (by decide +kernel), List.mem_of_getElem? (i := 898) (by decide +kernel)⟩
def lw_privs_2 : List (MethodName × Nat) := [(⟨"RueCake$RuleReader", "codeOfValue", "()I"⟩, 5), (⟨"RueCake$RuleReader", "put", "(I)V"⟩, 5), (⟨"RueCake$RuleReader", "readTest", "(I)Z"⟩, 5), (⟨"RueCake$RuleReader", "readFact", "(I)Z"⟩, 5), (⟨"RueCake$RuleReader", "readBrackets", "(I)Z"⟩, 5), (⟨"RueCake$RuleReader", "readComparison", "()Z"⟩, 5), (⟨"RueCake$Outlook", "ruleOf", "(I)LRueCake$Rule;"⟩, 9), (⟨"RueCake$Turns", "worthiest", "(LRueCake$Table;II)I"⟩, 3), (⟨"RueCake$Turns", "canTake", "(LRueCake$Table;II)Z"⟩, 3), (⟨"RueCake$Turns", "ruledBest", "(LRueCake$Table;ILRueCake$Rule;I)I"⟩, 3), (⟨"RueCake$Turns", "tellGuest", "(LRueCake$Table;I)V"⟩, 3), (⟨"RueCake$Turns", "tellSlice", "(LRueCake$Table;II)V"⟩, 3), (⟨"RueCake$Rule", "run", "(II[J[J)J"⟩, 2), (⟨"RueCake$Outlook", "goOn", "(ILRueCake$Rule;I)V"⟩, 9), (⟨"RueCake$Shares", "envies", "(I)Z"⟩, 5), (⟨"RueCake$Shares", "worthOfSet", "(II)I"⟩, 5)]
theorem lw_r2 : ∀ q ∈ lw_privs_2, lw_okq q := List.forall_mem_cons.mpr ⟨lw_p16, List.forall_mem_cons.mpr ⟨lw_p17, List.forall_mem_cons.mpr ⟨lw_p18, List.forall_mem_cons.mpr ⟨lw_p19, List.forall_mem_cons.mpr ⟨lw_p20, List.forall_mem_cons.mpr ⟨lw_p21, List.forall_mem_cons.mpr ⟨lw_p22, List.forall_mem_cons.mpr ⟨lw_p23, List.forall_mem_cons.mpr ⟨lw_p24, List.forall_mem_cons.mpr ⟨lw_p25, List.forall_mem_cons.mpr ⟨lw_p26, List.forall_mem_cons.mpr ⟨lw_p27, List.forall_mem_cons.mpr ⟨lw_p28, List.forall_mem_cons.mpr ⟨lw_p29, List.forall_mem_cons.mpr ⟨lw_p30, List.forall_mem_cons.mpr ⟨lw_p31, fun _ h => absurd h List.not_mem_nil⟩⟩⟩⟩⟩⟩⟩⟩⟩⟩⟩⟩⟩⟩⟩⟩
theorem lw_p32 : lw_okq (⟨"RueCake$Shares", "bothGain", "(LRueCake$Table;II)Z"⟩, 5) := ⟨⟨by decide +kernel, by decide +kernel⟩, List.mem_of_getElem? (i := 239) (by decide +kernel), List.mem_of_getElem? (i := 909) (by decide +kernel), List.mem_of_getElem? (i := 910) (by decide +kernel)⟩
theorem lw_p33 : lw_okq (⟨"RueCake$Searches", "cutFrom", "(II)V"⟩, 9) := ⟨⟨by decide +kernel, by decide +kernel⟩, List.mem_of_getElem? (i := 313) (by decide +kernel), List.mem_of_getElem? (i := 923) (by decide +kernel), List.mem_of_getElem? (i := 924) (by decide +kernel)⟩
theorem lw_p34 : lw_okq (⟨"RueCake$Searches", "keepCut", "()V"⟩, 9) := ⟨⟨by decide +kernel, by decide +kernel⟩, List.mem_of_getElem? (i := 313) (by decide +kernel), List.mem_of_getElem? (i := 928) (by decide +kernel), List.mem_of_getElem? (i := 929) (by decide +kernel)⟩
theorem lw_p35 : lw_okq (⟨"RueCake$Searches", "mayFollow", "(III)Z"⟩, 9) := ⟨⟨by decide +kernel, by decide +kernel⟩, List.mem_of_getElem? (i := 313) (by decide +kernel), List.mem_of_getElem? (i := 934) (by decide +kernel), List.mem_of_getElem? (i := 935) (by decide +kernel)⟩
theorem lw_p36 : lw_okq (⟨"RueCake$Searches", "shareFrom", "(I)V"⟩, 9) := ⟨⟨by decide +kernel, by decide +kernel⟩, List.mem_of_getElem? (i := 313) (by decide +kernel), List.mem_of_getElem? (i := 953) (by decide +kernel), List.mem_of_getElem? (i := 954) (by decide +kernel)⟩
theorem lw_p37 : lw_okq (⟨"RueCake$Searches", "keepShare", "()V"⟩, 9) := ⟨⟨by decide +kernel, by decide +kernel⟩, List.mem_of_getElem? (i := 313) (by decide +kernel), List.mem_of_getElem? (i := 957) (by decide +kernel), List.mem_of_getElem? (i := 958) (by decide +kernel)⟩
theorem lw_p38 : lw_okq (⟨"RueCake$Searches", "play", "(IIII)I"⟩, 9) := ⟨⟨by decide +kernel, by decide +kernel⟩, List.mem_of_getElem? (i := 313) (by decide +kernel), List.mem_of_getElem? (i := 1009) (by decide +kernel), List.mem_of_getElem? (i := 1010) (by decide +kernel)⟩
theorem lw_p39 : lw_okq (⟨"RueCake$Outlook", "fits", "(LRueCake$Rule;I)Z"⟩, 9) := ⟨⟨by decide +kernel, by decide +kernel⟩, List.mem_of_getElem? (i := 350) (by decide +kernel), List.mem_of_getElem? (i := 1041) (by decide +kernel), List.mem_of_getElem? (i := 1042) (by decide +kernel)⟩
theorem lw_p40 : lw_okq (⟨"RueCake$Outlook", "notesHold", "(I)Z"⟩, 9) := ⟨⟨by decide +kernel, by decide +kernel⟩, List.mem_of_getElem? (i := 350) (by decide +kernel), List.mem_of_getElem? (i := 1046) (by decide +kernel), List.mem_of_getElem? (i := 1047) (by decide +kernel)⟩
theorem lw_p41 : lw_okq (⟨"RueCake$Outlook", "watch", "(II)V"⟩, 9) := ⟨⟨by decide +kernel, by decide +kernel⟩, List.mem_of_getElem? (i := 350) (by decide +kernel), List.mem_of_getElem? (i := 1063) (by decide +kernel), List.mem_of_getElem? (i := 1064) (by decide +kernel)⟩
theorem lw_p42 : lw_okq (⟨"RueCake$Outlook", "mostAlike", "(II)I"⟩, 9) := ⟨⟨by decide +kernel, by decide +kernel⟩, List.mem_of_getElem? (i := 350) (by decide +kernel), List.mem_of_getElem? (i := 1068) (by decide +kernel), List.mem_of_getElem? (i := 1069) (by decide +kernel)⟩
theorem lw_p43 : lw_okq (⟨"RueCakeModel", "four", "(I)V"⟩, 43) := ⟨⟨by decide +kernel, by decide +kernel⟩, List.mem_of_getElem? (i := 1112) (by decide +kernel), List.mem_of_getElem? (i := 1252) (by decide +kernel), List.mem_of_getElem? (i := 1253) (by decide +kernel)⟩
theorem lw_p44 : lw_okq (⟨"RueCakeModel", "readsAll", "()Z"⟩, 43) := ⟨⟨by decide +kernel, by decide +kernel⟩, List.mem_of_getElem? (i := 1112) (by decide +kernel), List.mem_of_getElem? (i := 1264) (by decide +kernel), List.mem_of_getElem? (i := 1265) (by decide +kernel)⟩
theorem lw_p45 : lw_okq (⟨"RueCakeModel", "clauseHere", "()Z"⟩, 43) := ⟨⟨by decide +kernel, by decide +kernel⟩, List.mem_of_getElem? (i := 1112) (by decide +kernel), List.mem_of_getElem? (i := 1268) (by decide +kernel), List.mem_of_getElem? (i := 1269) (by decide +kernel)⟩
theorem lw_p46 : lw_okq (⟨"RueCakeModel", "see", "()I"⟩, 43) := ⟨⟨by decide +kernel, by decide +kernel⟩, List.mem_of_getElem? (i := 1112) (by decide +kernel), List.mem_of_getElem? (i := 1272) (by decide +kernel), List.mem_of_getElem? (i := 1273) (by decide +kernel)⟩
theorem lw_p47 : lw_okq (⟨"RueCakeModel", "isCakeWord", "()Z"⟩, 43) := ⟨⟨by decide +kernel, by decide +kernel⟩, List.mem_of_getElem? (i := 1112) (by decide +kernel), List.mem_of_getElem? (i := 1276) (by decide +kernel), List.mem_of_getElem? (i := 1277) (by decide +kernel)⟩
def lw_privs_3 : List (MethodName × Nat) := [(⟨"RueCake$Shares", "bothGain", "(LRueCake$Table;II)Z"⟩, 5), (⟨"RueCake$Searches", "cutFrom", "(II)V"⟩, 9), (⟨"RueCake$Searches", "keepCut", "()V"⟩, 9), (⟨"RueCake$Searches", "mayFollow", "(III)Z"⟩, 9), (⟨"RueCake$Searches", "shareFrom", "(I)V"⟩, 9), (⟨"RueCake$Searches", "keepShare", "()V"⟩, 9), (⟨"RueCake$Searches", "play", "(IIII)I"⟩, 9), (⟨"RueCake$Outlook", "fits", "(LRueCake$Rule;I)Z"⟩, 9), (⟨"RueCake$Outlook", "notesHold", "(I)Z"⟩, 9), (⟨"RueCake$Outlook", "watch", "(II)V"⟩, 9), (⟨"RueCake$Outlook", "mostAlike", "(II)I"⟩, 9), (⟨"RueCakeModel", "four", "(I)V"⟩, 43), (⟨"RueCakeModel", "readsAll", "()Z"⟩, 43), (⟨"RueCakeModel", "clauseHere", "()Z"⟩, 43), (⟨"RueCakeModel", "see", "()I"⟩, 43), (⟨"RueCakeModel", "isCakeWord", "()Z"⟩, 43)]
theorem lw_r3 : ∀ q ∈ lw_privs_3, lw_okq q := List.forall_mem_cons.mpr ⟨lw_p32, List.forall_mem_cons.mpr ⟨lw_p33, List.forall_mem_cons.mpr ⟨lw_p34, List.forall_mem_cons.mpr ⟨lw_p35, List.forall_mem_cons.mpr ⟨lw_p36, List.forall_mem_cons.mpr ⟨lw_p37, List.forall_mem_cons.mpr ⟨lw_p38, List.forall_mem_cons.mpr ⟨lw_p39, List.forall_mem_cons.mpr ⟨lw_p40, List.forall_mem_cons.mpr ⟨lw_p41, List.forall_mem_cons.mpr ⟨lw_p42, List.forall_mem_cons.mpr ⟨lw_p43, List.forall_mem_cons.mpr ⟨lw_p44, List.forall_mem_cons.mpr ⟨lw_p45, List.forall_mem_cons.mpr ⟨lw_p46, List.forall_mem_cons.mpr ⟨lw_p47, fun _ h => absurd h List.not_mem_nil⟩⟩⟩⟩⟩⟩⟩⟩⟩⟩⟩⟩⟩⟩⟩⟩
theorem lw_p48 : lw_okq (⟨"RueCakeModel", "isWord", "(J)Z"⟩, 43) := ⟨⟨by decide +kernel, by decide +kernel⟩, List.mem_of_getElem? (i := 1112) (by decide +kernel), List.mem_of_getElem? (i := 1281) (by decide +kernel), List.mem_of_getElem? (i := 1282) (by decide +kernel)⟩
theorem lw_p49 : lw_okq (⟨"RueCakeModel", "isLetter", "(I)Z"⟩, 43) := ⟨⟨by decide +kernel, by decide +kernel⟩, List.mem_of_getElem? (i := 1112) (by decide +kernel), List.mem_of_getElem? (i := 1285) (by decide +kernel), List.mem_of_getElem? (i := 1286) (by decide +kernel)⟩
theorem lw_p50 : lw_okq (⟨"RueCakeModel", "fails", "(II)Z"⟩, 43) := ⟨⟨by decide +kernel, by decide +kernel⟩, List.mem_of_getElem? (i := 1112) (by decide +kernel), List.mem_of_getElem? (i := 1293) (by decide +kernel), List.mem_of_getElem? (i := 1294) (by decide +kernel)⟩
theorem lw_p51 : lw_okq (⟨"RueCakeModel", "cakeLineHere", "(I)Z"⟩, 43) := ⟨⟨by decide +kernel, by decide +kernel⟩, List.mem_of_getElem? (i := 1112) (by decide +kernel), List.mem_of_getElem? (i := 1297) (by decide +kernel), List.mem_of_getElem? (i := 1298) (by decide +kernel)⟩
theorem lw_p52 : lw_okq (⟨"RueCakeModel", "isCakeHere", "(I)Z"⟩, 43) := ⟨⟨by decide +kernel, by decide +kernel⟩, List.mem_of_getElem? (i := 1112) (by decide +kernel), List.mem_of_getElem? (i := 1301) (by decide +kernel), List.mem_of_getElem? (i := 1302) (by decide +kernel)⟩
theorem lw_p53 : lw_okq (⟨"RueCakeModel", "passWord", "()V"⟩, 43) := ⟨⟨by decide +kernel, by decide +kernel⟩, List.mem_of_getElem? (i := 1112) (by decide +kernel), List.mem_of_getElem? (i := 1305) (by decide +kernel), List.mem_of_getElem? (i := 1306) (by decide +kernel)⟩
theorem lw_p54 : lw_okq (⟨"RueCakeModel", "cellHere", "(III)Z"⟩, 43) := ⟨⟨by decide +kernel, by decide +kernel⟩, List.mem_of_getElem? (i := 1112) (by decide +kernel), List.mem_of_getElem? (i := 1309) (by decide +kernel), List.mem_of_getElem? (i := 1310) (by decide +kernel)⟩
theorem lw_p55 : lw_okq (⟨"RueCakeModel", "numberHere", "(II)Z"⟩, 43) := ⟨⟨by decide +kernel, by decide +kernel⟩, List.mem_of_getElem? (i := 1112) (by decide +kernel), List.mem_of_getElem? (i := 1313) (by decide +kernel), List.mem_of_getElem? (i := 1314) (by decide +kernel)⟩
theorem lw_p56 : lw_okq (⟨"RueCakeModel", "isDigit", "(I)Z"⟩, 43) := ⟨⟨by decide +kernel, by decide +kernel⟩, List.mem_of_getElem? (i := 1112) (by decide +kernel), List.mem_of_getElem? (i := 1317) (by decide +kernel), List.mem_of_getElem? (i := 1318) (by decide +kernel)⟩
theorem lw_p57 : lw_okq (⟨"RueCakeModel", "isSliceHere", "(I)Z"⟩, 43) := ⟨⟨by decide +kernel, by decide +kernel⟩, List.mem_of_getElem? (i := 1112) (by decide +kernel), List.mem_of_getElem? (i := 1324) (by decide +kernel), List.mem_of_getElem? (i := 1325) (by decide +kernel)⟩
theorem lw_p58 : lw_okq (⟨"RueCakeModel", "isGuestHere", "(I)Z"⟩, 43) := ⟨⟨by decide +kernel, by decide +kernel⟩, List.mem_of_getElem? (i := 1112) (by decide +kernel), List.mem_of_getElem? (i := 1328) (by decide +kernel), List.mem_of_getElem? (i := 1329) (by decide +kernel)⟩
theorem lw_p59 : lw_okq (⟨"RueCakeModel", "areLikesHere", "()Z"⟩, 43) := ⟨⟨by decide +kernel, by decide +kernel⟩, List.mem_of_getElem? (i := 1112) (by decide +kernel), List.mem_of_getElem? (i := 1332) (by decide +kernel), List.mem_of_getElem? (i := 1333) (by decide +kernel)⟩
theorem lw_p60 : lw_okq (⟨"RueCakeModel", "isTakeHere", "()Z"⟩, 43) := ⟨⟨by decide +kernel, by decide +kernel⟩, List.mem_of_getElem? (i := 1112) (by decide +kernel), List.mem_of_getElem? (i := 1336) (by decide +kernel), List.mem_of_getElem? (i := 1337) (by decide +kernel)⟩
theorem lw_p61 : lw_okq (⟨"RueCakeModel", "sum", "()Z"⟩, 43) := ⟨⟨by decide +kernel, by decide +kernel⟩, List.mem_of_getElem? (i := 1112) (by decide +kernel), List.mem_of_getElem? (i := 1340) (by decide +kernel), List.mem_of_getElem? (i := 1341) (by decide +kernel)⟩
theorem lw_p62 : lw_okq (⟨"RueCakeModel", "term", "()Z"⟩, 43) := ⟨⟨by decide +kernel, by decide +kernel⟩, List.mem_of_getElem? (i := 1112) (by decide +kernel), List.mem_of_getElem? (i := 1344) (by decide +kernel), List.mem_of_getElem? (i := 1345) (by decide +kernel)⟩
theorem lw_p63 : lw_okq (⟨"RueCakeModel", "value", "()Z"⟩, 43) := ⟨⟨by decide +kernel, by decide +kernel⟩, List.mem_of_getElem? (i := 1112) (by decide +kernel), List.mem_of_getElem? (i := 1348) (by decide +kernel), List.mem_of_getElem? (i := 1349) (by decide +kernel)⟩
def lw_privs_4 : List (MethodName × Nat) := [(⟨"RueCakeModel", "isWord", "(J)Z"⟩, 43), (⟨"RueCakeModel", "isLetter", "(I)Z"⟩, 43), (⟨"RueCakeModel", "fails", "(II)Z"⟩, 43), (⟨"RueCakeModel", "cakeLineHere", "(I)Z"⟩, 43), (⟨"RueCakeModel", "isCakeHere", "(I)Z"⟩, 43), (⟨"RueCakeModel", "passWord", "()V"⟩, 43), (⟨"RueCakeModel", "cellHere", "(III)Z"⟩, 43), (⟨"RueCakeModel", "numberHere", "(II)Z"⟩, 43), (⟨"RueCakeModel", "isDigit", "(I)Z"⟩, 43), (⟨"RueCakeModel", "isSliceHere", "(I)Z"⟩, 43), (⟨"RueCakeModel", "isGuestHere", "(I)Z"⟩, 43), (⟨"RueCakeModel", "areLikesHere", "()Z"⟩, 43), (⟨"RueCakeModel", "isTakeHere", "()Z"⟩, 43), (⟨"RueCakeModel", "sum", "()Z"⟩, 43), (⟨"RueCakeModel", "term", "()Z"⟩, 43), (⟨"RueCakeModel", "value", "()Z"⟩, 43)]
theorem lw_r4 : ∀ q ∈ lw_privs_4, lw_okq q := List.forall_mem_cons.mpr ⟨lw_p48, List.forall_mem_cons.mpr ⟨lw_p49, List.forall_mem_cons.mpr ⟨lw_p50, List.forall_mem_cons.mpr ⟨lw_p51, List.forall_mem_cons.mpr ⟨lw_p52, List.forall_mem_cons.mpr ⟨lw_p53, List.forall_mem_cons.mpr ⟨lw_p54, List.forall_mem_cons.mpr ⟨lw_p55, List.forall_mem_cons.mpr ⟨lw_p56, List.forall_mem_cons.mpr ⟨lw_p57, List.forall_mem_cons.mpr ⟨lw_p58, List.forall_mem_cons.mpr ⟨lw_p59, List.forall_mem_cons.mpr ⟨lw_p60, List.forall_mem_cons.mpr ⟨lw_p61, List.forall_mem_cons.mpr ⟨lw_p62, List.forall_mem_cons.mpr ⟨lw_p63, fun _ h => absurd h List.not_mem_nil⟩⟩⟩⟩⟩⟩⟩⟩⟩⟩⟩⟩⟩⟩⟩⟩
theorem lw_p64 : lw_okq (⟨"RueCakeModel", "makes", "(I)Z"⟩, 43) := ⟨⟨by decide +kernel, by decide +kernel⟩, List.mem_of_getElem? (i := 1112) (by decide +kernel), List.mem_of_getElem? (i := 1353) (by decide +kernel), List.mem_of_getElem? (i := 1354) (by decide +kernel)⟩
theorem lw_p65 : lw_okq (⟨"RueCakeModel", "puts", "(II)V"⟩, 43) := ⟨⟨by decide +kernel, by decide +kernel⟩, List.mem_of_getElem? (i := 1112) (by decide +kernel), List.mem_of_getElem? (i := 1357) (by decide +kernel), List.mem_of_getElem? (i := 1358) (by decide +kernel)⟩
theorem lw_p66 : lw_okq (⟨"RueCakeModel", "wordHere", "()I"⟩, 43) := ⟨⟨by decide +kernel, by decide +kernel⟩, List.mem_of_getElem? (i := 1112) (by decide +kernel), List.mem_of_getElem? (i := 1361) (by decide +kernel), List.mem_of_getElem? (i := 1362) (by decide +kernel)⟩
theorem lw_p67 : lw_okq (⟨"RueCakeModel", "takesWord", "(J)Z"⟩, 43) := ⟨⟨by decide +kernel, by decide +kernel⟩, List.mem_of_getElem? (i := 1112) (by decide +kernel), List.mem_of_getElem? (i := 1375) (by decide +kernel), List.mem_of_getElem? (i := 1376) (by decide +kernel)⟩
theorem lw_p68 : lw_okq (⟨"RueCakeModel", "tested", "()Z"⟩, 43) := ⟨⟨by decide +kernel, by decide +kernel⟩, List.mem_of_getElem? (i := 1112) (by decide +kernel), List.mem_of_getElem? (i := 1379) (by decide +kernel), List.mem_of_getElem? (i := 1380) (by decide +kernel)⟩
theorem lw_p69 : lw_okq (⟨"RueCakeModel", "fact", "()Z"⟩, 43) := ⟨⟨by decide +kernel, by decide +kernel⟩, List.mem_of_getElem? (i := 1112) (by decide +kernel), List.mem_of_getElem? (i := 1383) (by decide +kernel), List.mem_of_getElem? (i := 1384) (by decide +kernel)⟩
theorem lw_p70 : lw_okq (⟨"RueCakeModel", "opens", "(I)Z"⟩, 43) := ⟨⟨by decide +kernel, by decide +kernel⟩, List.mem_of_getElem? (i := 1112) (by decide +kernel), List.mem_of_getElem? (i := 1388) (by decide +kernel), List.mem_of_getElem? (i := 1389) (by decide +kernel)⟩
theorem lw_p71 : lw_okq (⟨"RueCakeModel", "compare", "()Z"⟩, 43) := ⟨⟨by decide +kernel, by decide +kernel⟩, List.mem_of_getElem? (i := 1112) (by decide +kernel), List.mem_of_getElem? (i := 1392) (by decide +kernel), List.mem_of_getElem? (i := 1393) (by decide +kernel)⟩
theorem lw_p72 : lw_okq (⟨"RueCakeModel", "closes", "()V"⟩, 43) := ⟨⟨by decide +kernel, by decide +kernel⟩, List.mem_of_getElem? (i := 1112) (by decide +kernel), List.mem_of_getElem? (i := 1396) (by decide +kernel), List.mem_of_getElem? (i := 1397) (by decide +kernel)⟩
theorem lw_p73 : lw_okq (⟨"RueCakeModel", "settles", "(I)V"⟩, 43) := ⟨⟨by decide +kernel, by decide +kernel⟩, List.mem_of_getElem? (i := 1112) (by decide +kernel), List.mem_of_getElem? (i := 1400) (by decide +kernel), List.mem_of_getElem? (i := 1401) (by decide +kernel)⟩
theorem lw_p74 : lw_okq (⟨"RueCakeModel", "isInside", "()Z"⟩, 43) := ⟨⟨by decide +kernel, by decide +kernel⟩, List.mem_of_getElem? (i := 1112) (by decide +kernel), List.mem_of_getElem? (i := 1407) (by decide +kernel), List.mem_of_getElem? (i := 1408) (by decide +kernel)⟩
theorem lw_p75 : lw_okq (⟨"RueCakeModel", "begins", "()V"⟩, 43) := ⟨⟨by decide +kernel, by decide +kernel⟩, List.mem_of_getElem? (i := 1112) (by decide +kernel), List.mem_of_getElem? (i := 1417) (by decide +kernel), List.mem_of_getElem? (i := 1418) (by decide +kernel)⟩
theorem lw_p76 : lw_okq (⟨"RueCakeModel", "isRule", "(I)Z"⟩, 43) := ⟨⟨by decide +kernel, by decide +kernel⟩, List.mem_of_getElem? (i := 1112) (by decide +kernel), List.mem_of_getElem? (i := 1425) (by decide +kernel), List.mem_of_getElem? (i := 1426) (by decide +kernel)⟩
theorem lw_p77 : lw_okq (⟨"RueCakeModel", "isSlice", "(I)Z"⟩, 43) := ⟨⟨by decide +kernel, by decide +kernel⟩, List.mem_of_getElem? (i := 1112) (by decide +kernel), List.mem_of_getElem? (i := 1433) (by decide +kernel), List.mem_of_getElem? (i := 1434) (by decide +kernel)⟩
theorem lw_p78 : lw_okq (⟨"RueCakeModel", "isGuest", "(I)Z"⟩, 43) := ⟨⟨by decide +kernel, by decide +kernel⟩, List.mem_of_getElem? (i := 1112) (by decide +kernel), List.mem_of_getElem? (i := 1442) (by decide +kernel), List.mem_of_getElem? (i := 1443) (by decide +kernel)⟩
theorem lw_p79 : lw_okq (⟨"RueCakeModel", "has", "(I)I"⟩, 43) := ⟨⟨by decide +kernel, by decide +kernel⟩, List.mem_of_getElem? (i := 1112) (by decide +kernel), List.mem_of_getElem? (i := 1447) (by decide +kernel), List.mem_of_getElem? (i := 1448) (by decide +kernel)⟩
def lw_privs_5 : List (MethodName × Nat) := [(⟨"RueCakeModel", "makes", "(I)Z"⟩, 43), (⟨"RueCakeModel", "puts", "(II)V"⟩, 43), (⟨"RueCakeModel", "wordHere", "()I"⟩, 43), (⟨"RueCakeModel", "takesWord", "(J)Z"⟩, 43), (⟨"RueCakeModel", "tested", "()Z"⟩, 43), (⟨"RueCakeModel", "fact", "()Z"⟩, 43), (⟨"RueCakeModel", "opens", "(I)Z"⟩, 43), (⟨"RueCakeModel", "compare", "()Z"⟩, 43), (⟨"RueCakeModel", "closes", "()V"⟩, 43), (⟨"RueCakeModel", "settles", "(I)V"⟩, 43), (⟨"RueCakeModel", "isInside", "()Z"⟩, 43), (⟨"RueCakeModel", "begins", "()V"⟩, 43), (⟨"RueCakeModel", "isRule", "(I)Z"⟩, 43), (⟨"RueCakeModel", "isSlice", "(I)Z"⟩, 43), (⟨"RueCakeModel", "isGuest", "(I)Z"⟩, 43), (⟨"RueCakeModel", "has", "(I)I"⟩, 43)]
theorem lw_r5 : ∀ q ∈ lw_privs_5, lw_okq q := List.forall_mem_cons.mpr ⟨lw_p64, List.forall_mem_cons.mpr ⟨lw_p65, List.forall_mem_cons.mpr ⟨lw_p66, List.forall_mem_cons.mpr ⟨lw_p67, List.forall_mem_cons.mpr ⟨lw_p68, List.forall_mem_cons.mpr ⟨lw_p69, List.forall_mem_cons.mpr ⟨lw_p70, List.forall_mem_cons.mpr ⟨lw_p71, List.forall_mem_cons.mpr ⟨lw_p72, List.forall_mem_cons.mpr ⟨lw_p73, List.forall_mem_cons.mpr ⟨lw_p74, List.forall_mem_cons.mpr ⟨lw_p75, List.forall_mem_cons.mpr ⟨lw_p76, List.forall_mem_cons.mpr ⟨lw_p77, List.forall_mem_cons.mpr ⟨lw_p78, List.forall_mem_cons.mpr ⟨lw_p79, fun _ h => absurd h List.not_mem_nil⟩⟩⟩⟩⟩⟩⟩⟩⟩⟩⟩⟩⟩⟩⟩⟩
theorem lw_p80 : lw_okq (⟨"RueCakeModel", "slicesOf", "(I)I"⟩, 43) := ⟨⟨by decide +kernel, by decide +kernel⟩, List.mem_of_getElem? (i := 1112) (by decide +kernel), List.mem_of_getElem? (i := 1451) (by decide +kernel), List.mem_of_getElem? (i := 1452) (by decide +kernel)⟩
theorem lw_p81 : lw_okq (⟨"RueCakeModel", "worthOfAll", "(II)I"⟩, 43) := ⟨⟨by decide +kernel, by decide +kernel⟩, List.mem_of_getElem? (i := 1112) (by decide +kernel), List.mem_of_getElem? (i := 1455) (by decide +kernel), List.mem_of_getElem? (i := 1456) (by decide +kernel)⟩
theorem lw_p82 : lw_okq (⟨"RueCakeModel", "worthOf", "(II)I"⟩, 43) := ⟨⟨by decide +kernel, by decide +kernel⟩, List.mem_of_getElem? (i := 1112) (by decide +kernel), List.mem_of_getElem? (i := 1462) (by decide +kernel), List.mem_of_getElem? (i := 1463) (by decide +kernel)⟩
theorem lw_p83 : lw_okq (⟨"RueCakeModel", "likesOf", "(II)I"⟩, 43) := ⟨⟨by decide +kernel, by decide +kernel⟩, List.mem_of_getElem? (i := 1112) (by decide +kernel), List.mem_of_getElem? (i := 1466) (by decide +kernel), List.mem_of_getElem? (i := 1467) (by decide +kernel)⟩
theorem lw_p84 : lw_okq (⟨"RueCakeModel", "isFeast", "()Z"⟩, 43) := ⟨⟨by decide +kernel, by decide +kernel⟩, List.mem_of_getElem? (i := 1112) (by decide +kernel), List.mem_of_getElem? (i := 1478) (by decide +kernel), List.mem_of_getElem? (i := 1479) (by decide +kernel)⟩
theorem lw_p85 : lw_okq (⟨"RueCakeModel", "keepsAct", "()V"⟩, 43) := ⟨⟨by decide +kernel, by decide +kernel⟩, List.mem_of_getElem? (i := 1112) (by decide +kernel), List.mem_of_getElem? (i := 1482) (by decide +kernel), List.mem_of_getElem? (i := 1483) (by decide +kernel)⟩
theorem lw_p86 : lw_okq (⟨"RueCakeModel", "passes", "()I"⟩, 43) := ⟨⟨by decide +kernel, by decide +kernel⟩, List.mem_of_getElem? (i := 1112) (by decide +kernel), List.mem_of_getElem? (i := 1486) (by decide +kernel), List.mem_of_getElem? (i := 1487) (by decide +kernel)⟩
theorem lw_p87 : lw_okq (⟨"RueCakeModel", "whoseTurn", "()I"⟩, 43) := ⟨⟨by decide +kernel, by decide +kernel⟩, List.mem_of_getElem? (i := 1112) (by decide +kernel), List.mem_of_getElem? (i := 1490) (by decide +kernel), List.mem_of_getElem? (i := 1491) (by decide +kernel)⟩
theorem lw_p88 : lw_okq (⟨"RueCakeModel", "isContent", "(I)Z"⟩, 43) := ⟨⟨by decide +kernel, by decide +kernel⟩, List.mem_of_getElem? (i := 1112) (by decide +kernel), List.mem_of_getElem? (i := 1494) (by decide +kernel), List.mem_of_getElem? (i := 1495) (by decide +kernel)⟩
theorem lw_p89 : lw_okq (⟨"RueCakeModel", "choice", "(I)I"⟩, 43) := ⟨⟨by decide +kernel, by decide +kernel⟩, List.mem_of_getElem? (i := 1112) (by decide +kernel), List.mem_of_getElem? (i := 1498) (by decide +kernel), List.mem_of_getElem? (i := 1499) (by decide +kernel)⟩
theorem lw_p90 : lw_okq (⟨"RueCakeModel", "sumOf", "(II)J"⟩, 43) := ⟨⟨by decide +kernel, by decide +kernel⟩, List.mem_of_getElem? (i := 1112) (by decide +kernel), List.mem_of_getElem? (i := 1502) (by decide +kernel), List.mem_of_getElem? (i := 1503) (by decide +kernel)⟩
theorem lw_p91 : lw_okq (⟨"RueCakeModel", "summedBy", "(I)J"⟩, 43) := ⟨⟨by decide +kernel, by decide +kernel⟩, List.mem_of_getElem? (i := 1112) (by decide +kernel), List.mem_of_getElem? (i := 1509) (by decide +kernel), List.mem_of_getElem? (i := 1510) (by decide +kernel)⟩
theorem lw_p92 : lw_okq (⟨"RueCakeModel", "reckons", "(III)J"⟩, 43) := ⟨⟨by decide +kernel, by decide +kernel⟩, List.mem_of_getElem? (i := 1112) (by decide +kernel), List.mem_of_getElem? (i := 1513) (by decide +kernel), List.mem_of_getElem? (i := 1514) (by decide +kernel)⟩
theorem lw_p93 : lw_okq (⟨"RueCakeModel", "push", "(J)V"⟩, 43) := ⟨⟨by decide +kernel, by decide +kernel⟩, List.mem_of_getElem? (i := 1112) (by decide +kernel), List.mem_of_getElem? (i := 1517) (by decide +kernel), List.mem_of_getElem? (i := 1518) (by decide +kernel)⟩
theorem lw_p94 : lw_okq (⟨"RueCakeModel", "pop", "()J"⟩, 43) := ⟨⟨by decide +kernel, by decide +kernel⟩, List.mem_of_getElem? (i := 1112) (by decide +kernel), List.mem_of_getElem? (i := 1521) (by decide +kernel), List.mem_of_getElem? (i := 1522) (by decide +kernel)⟩
theorem lw_p95 : lw_okq (⟨"RueCakeModel", "areOfTwo", "(II)Z"⟩, 43) := ⟨⟨by decide +kernel, by decide +kernel⟩, List.mem_of_getElem? (i := 1112) (by decide +kernel), List.mem_of_getElem? (i := 1540) (by decide +kernel), List.mem_of_getElem? (i := 1541) (by decide +kernel)⟩
def lw_privs_6 : List (MethodName × Nat) := [(⟨"RueCakeModel", "slicesOf", "(I)I"⟩, 43), (⟨"RueCakeModel", "worthOfAll", "(II)I"⟩, 43), (⟨"RueCakeModel", "worthOf", "(II)I"⟩, 43), (⟨"RueCakeModel", "likesOf", "(II)I"⟩, 43), (⟨"RueCakeModel", "isFeast", "()Z"⟩, 43), (⟨"RueCakeModel", "keepsAct", "()V"⟩, 43), (⟨"RueCakeModel", "passes", "()I"⟩, 43), (⟨"RueCakeModel", "whoseTurn", "()I"⟩, 43), (⟨"RueCakeModel", "isContent", "(I)Z"⟩, 43), (⟨"RueCakeModel", "choice", "(I)I"⟩, 43), (⟨"RueCakeModel", "sumOf", "(II)J"⟩, 43), (⟨"RueCakeModel", "summedBy", "(I)J"⟩, 43), (⟨"RueCakeModel", "reckons", "(III)J"⟩, 43), (⟨"RueCakeModel", "push", "(J)V"⟩, 43), (⟨"RueCakeModel", "pop", "()J"⟩, 43), (⟨"RueCakeModel", "areOfTwo", "(II)Z"⟩, 43)]
theorem lw_r6 : ∀ q ∈ lw_privs_6, lw_okq q := List.forall_mem_cons.mpr ⟨lw_p80, List.forall_mem_cons.mpr ⟨lw_p81, List.forall_mem_cons.mpr ⟨lw_p82, List.forall_mem_cons.mpr ⟨lw_p83, List.forall_mem_cons.mpr ⟨lw_p84, List.forall_mem_cons.mpr ⟨lw_p85, List.forall_mem_cons.mpr ⟨lw_p86, List.forall_mem_cons.mpr ⟨lw_p87, List.forall_mem_cons.mpr ⟨lw_p88, List.forall_mem_cons.mpr ⟨lw_p89, List.forall_mem_cons.mpr ⟨lw_p90, List.forall_mem_cons.mpr ⟨lw_p91, List.forall_mem_cons.mpr ⟨lw_p92, List.forall_mem_cons.mpr ⟨lw_p93, List.forall_mem_cons.mpr ⟨lw_p94, List.forall_mem_cons.mpr ⟨lw_p95, fun _ h => absurd h List.not_mem_nil⟩⟩⟩⟩⟩⟩⟩⟩⟩⟩⟩⟩⟩⟩⟩⟩
theorem lw_p96 : lw_okq (⟨"RueCakeModel", "stirs", "(I)V"⟩, 43) := ⟨⟨by decide +kernel, by decide +kernel⟩, List.mem_of_getElem? (i := 1112) (by decide +kernel), List.mem_of_getElem? (i := 1548) (by decide +kernel), List.mem_of_getElem? (i := 1549) (by decide +kernel)⟩
theorem lw_p97 : lw_okq (⟨"RueCakeModel", "keeps", "()V"⟩, 43) := ⟨⟨by decide +kernel, by decide +kernel⟩, List.mem_of_getElem? (i := 1112) (by decide +kernel), List.mem_of_getElem? (i := 1557) (by decide +kernel), List.mem_of_getElem? (i := 1558) (by decide +kernel)⟩
theorem lw_p98 : lw_okq (⟨"RueCakeModel", "passesAll", "(I)V"⟩, 43) := ⟨⟨by decide +kernel, by decide +kernel⟩, List.mem_of_getElem? (i := 1112) (by decide +kernel), List.mem_of_getElem? (i := 1561) (by decide +kernel), List.mem_of_getElem? (i := 1562) (by decide +kernel)⟩
theorem lw_p99 : lw_okq (⟨"RueCakeModel", "laysBack", "()V"⟩, 43) := ⟨⟨by decide +kernel, by decide +kernel⟩, List.mem_of_getElem? (i := 1112) (by decide +kernel), List.mem_of_getElem? (i := 1565) (by decide +kernel), List.mem_of_getElem? (i := 1566) (by decide +kernel)⟩
theorem lw_p100 : lw_okq (⟨"RueCakeModel", "areBetterOff", "(II)Z"⟩, 43) := ⟨⟨by decide +kernel, by decide +kernel⟩, List.mem_of_getElem? (i := 1112) (by decide +kernel), List.mem_of_getElem? (i := 1585) (by decide +kernel), List.mem_of_getElem? (i := 1586) (by decide +kernel)⟩
theorem lw_p101 : lw_okq (⟨"RueCakeModel", "findsCut", "()V"⟩, 43) := ⟨⟨by decide +kernel, by decide +kernel⟩, List.mem_of_getElem? (i := 1112) (by decide +kernel), List.mem_of_getElem? (i := 1595) (by decide +kernel), List.mem_of_getElem? (i := 1596) (by decide +kernel)⟩
theorem lw_p102 : lw_okq (⟨"RueCakeModel", "usedMany", "(I)I"⟩, 43) := ⟨⟨by decide +kernel, by decide +kernel⟩, List.mem_of_getElem? (i := 1112) (by decide +kernel), List.mem_of_getElem? (i := 1599) (by decide +kernel), List.mem_of_getElem? (i := 1600) (by decide +kernel)⟩
theorem lw_p103 : lw_okq (⟨"RueCakeModel", "keepsCut", "()V"⟩, 43) := ⟨⟨by decide +kernel, by decide +kernel⟩, List.mem_of_getElem? (i := 1112) (by decide +kernel), List.mem_of_getElem? (i := 1603) (by decide +kernel), List.mem_of_getElem? (i := 1604) (by decide +kernel)⟩
theorem lw_p104 : lw_okq (⟨"RueCakeModel", "canCut", "(I)Z"⟩, 43) := ⟨⟨by decide +kernel, by decide +kernel⟩, List.mem_of_getElem? (i := 1112) (by decide +kernel), List.mem_of_getElem? (i := 1607) (by decide +kernel), List.mem_of_getElem? (i := 1608) (by decide +kernel)⟩
theorem lw_p105 : lw_okq (⟨"RueCakeModel", "isRound", "(I)Z"⟩, 43) := ⟨⟨by decide +kernel, by decide +kernel⟩, List.mem_of_getElem? (i := 1112) (by decide +kernel), List.mem_of_getElem? (i := 1611) (by decide +kernel), List.mem_of_getElem? (i := 1612) (by decide +kernel)⟩
theorem lw_p106 : lw_okq (⟨"RueCakeModel", "isUsed", "(II)Z"⟩, 43) := ⟨⟨by decide +kernel, by decide +kernel⟩, List.mem_of_getElem? (i := 1112) (by decide +kernel), List.mem_of_getElem? (i := 1615) (by decide +kernel), List.mem_of_getElem? (i := 1616) (by decide +kernel)⟩
theorem lw_p107 : lw_okq (⟨"RueCakeModel", "findsFair", "(I)V"⟩, 43) := ⟨⟨by decide +kernel, by decide +kernel⟩, List.mem_of_getElem? (i := 1112) (by decide +kernel), List.mem_of_getElem? (i := 1623) (by decide +kernel), List.mem_of_getElem? (i := 1624) (by decide +kernel)⟩
theorem lw_p108 : lw_okq (⟨"RueCakeModel", "givesBy", "(II)V"⟩, 43) := ⟨⟨by decide +kernel, by decide +kernel⟩, List.mem_of_getElem? (i := 1112) (by decide +kernel), List.mem_of_getElem? (i := 1627) (by decide +kernel), List.mem_of_getElem? (i := 1628) (by decide +kernel)⟩
theorem lw_p109 : lw_okq (⟨"RueCakeModel", "contentOnes", "()I"⟩, 43) := ⟨⟨by decide +kernel, by decide +kernel⟩, List.mem_of_getElem? (i := 1112) (by decide +kernel), List.mem_of_getElem? (i := 1641) (by decide +kernel), List.mem_of_getElem? (i := 1642) (by decide +kernel)⟩
theorem lw_p110 : lw_okq (⟨"RueCakeModel", "plays", "(III)V"⟩, 43) := ⟨⟨by decide +kernel, by decide +kernel⟩, List.mem_of_getElem? (i := 1112) (by decide +kernel), List.mem_of_getElem? (i := 1654) (by decide +kernel), List.mem_of_getElem? (i := 1655) (by decide +kernel)⟩
theorem lw_p111 : lw_okq (⟨"RueCakeModel", "beginsTurn", "(I)V"⟩, 43) := ⟨⟨by decide +kernel, by decide +kernel⟩, List.mem_of_getElem? (i := 1112) (by decide +kernel), List.mem_of_getElem? (i := 1658) (by decide +kernel), List.mem_of_getElem? (i := 1659) (by decide +kernel)⟩
def lw_privs_7 : List (MethodName × Nat) := [(⟨"RueCakeModel", "stirs", "(I)V"⟩, 43), (⟨"RueCakeModel", "keeps", "()V"⟩, 43), (⟨"RueCakeModel", "passesAll", "(I)V"⟩, 43), (⟨"RueCakeModel", "laysBack", "()V"⟩, 43), (⟨"RueCakeModel", "areBetterOff", "(II)Z"⟩, 43), (⟨"RueCakeModel", "findsCut", "()V"⟩, 43), (⟨"RueCakeModel", "usedMany", "(I)I"⟩, 43), (⟨"RueCakeModel", "keepsCut", "()V"⟩, 43), (⟨"RueCakeModel", "canCut", "(I)Z"⟩, 43), (⟨"RueCakeModel", "isRound", "(I)Z"⟩, 43), (⟨"RueCakeModel", "isUsed", "(II)Z"⟩, 43), (⟨"RueCakeModel", "findsFair", "(I)V"⟩, 43), (⟨"RueCakeModel", "givesBy", "(II)V"⟩, 43), (⟨"RueCakeModel", "contentOnes", "()I"⟩, 43), (⟨"RueCakeModel", "plays", "(III)V"⟩, 43), (⟨"RueCakeModel", "beginsTurn", "(I)V"⟩, 43)]
theorem lw_r7 : ∀ q ∈ lw_privs_7, lw_okq q := List.forall_mem_cons.mpr ⟨lw_p96, List.forall_mem_cons.mpr ⟨lw_p97, List.forall_mem_cons.mpr ⟨lw_p98, List.forall_mem_cons.mpr ⟨lw_p99, List.forall_mem_cons.mpr ⟨lw_p100, List.forall_mem_cons.mpr ⟨lw_p101, List.forall_mem_cons.mpr ⟨lw_p102, List.forall_mem_cons.mpr ⟨lw_p103, List.forall_mem_cons.mpr ⟨lw_p104, List.forall_mem_cons.mpr ⟨lw_p105, List.forall_mem_cons.mpr ⟨lw_p106, List.forall_mem_cons.mpr ⟨lw_p107, List.forall_mem_cons.mpr ⟨lw_p108, List.forall_mem_cons.mpr ⟨lw_p109, List.forall_mem_cons.mpr ⟨lw_p110, List.forall_mem_cons.mpr ⟨lw_p111, fun _ h => absurd h List.not_mem_nil⟩⟩⟩⟩⟩⟩⟩⟩⟩⟩⟩⟩⟩⟩⟩⟩
theorem lw_p112 : lw_okq (⟨"RueCakeModel", "takesNext", "(II)Z"⟩, 43) := ⟨⟨by decide +kernel, by decide +kernel⟩, List.mem_of_getElem? (i := 1112) (by decide +kernel), List.mem_of_getElem? (i := 1662) (by decide +kernel), List.mem_of_getElem? (i := 1663) (by decide +kernel)⟩
theorem lw_p113 : lw_okq (⟨"RueCakeModel", "isWorth", "(II)V"⟩, 43) := ⟨⟨by decide +kernel, by decide +kernel⟩, List.mem_of_getElem? (i := 1112) (by decide +kernel), List.mem_of_getElem? (i := 1666) (by decide +kernel), List.mem_of_getElem? (i := 1667) (by decide +kernel)⟩
theorem lw_p114 : lw_okq (⟨"RueCakeModel", "fillsFits", "(I)V"⟩, 43) := ⟨⟨by decide +kernel, by decide +kernel⟩, List.mem_of_getElem? (i := 1112) (by decide +kernel), List.mem_of_getElem? (i := 1683) (by decide +kernel), List.mem_of_getElem? (i := 1684) (by decide +kernel)⟩
theorem lw_p115 : lw_okq (⟨"RueCakeModel", "areNotesSo", "(I)Z"⟩, 43) := ⟨⟨by decide +kernel, by decide +kernel⟩, List.mem_of_getElem? (i := 1112) (by decide +kernel), List.mem_of_getElem? (i := 1687) (by decide +kernel), List.mem_of_getElem? (i := 1688) (by decide +kernel)⟩
theorem lw_p116 : lw_okq (⟨"RueCakeModel", "alikeAt", "(I)I"⟩, 43) := ⟨⟨by decide +kernel, by decide +kernel⟩, List.mem_of_getElem? (i := 1112) (by decide +kernel), List.mem_of_getElem? (i := 1695) (by decide +kernel), List.mem_of_getElem? (i := 1696) (by decide +kernel)⟩
theorem lw_p117 : lw_okq (⟨"RueCakeModel", "draw", "(I)I"⟩, 43) := ⟨⟨by decide +kernel, by decide +kernel⟩, List.mem_of_getElem? (i := 1112) (by decide +kernel), List.mem_of_getElem? (i := 1708) (by decide +kernel), List.mem_of_getElem? (i := 1709) (by decide +kernel)⟩
def lw_privs_8 : List (MethodName × Nat) := [(⟨"RueCakeModel", "takesNext", "(II)Z"⟩, 43), (⟨"RueCakeModel", "isWorth", "(II)V"⟩, 43), (⟨"RueCakeModel", "fillsFits", "(I)V"⟩, 43), (⟨"RueCakeModel", "areNotesSo", "(I)Z"⟩, 43), (⟨"RueCakeModel", "alikeAt", "(I)I"⟩, 43), (⟨"RueCakeModel", "draw", "(I)I"⟩, 43)]
theorem lw_r8 : ∀ q ∈ lw_privs_8, lw_okq q := List.forall_mem_cons.mpr ⟨lw_p112, List.forall_mem_cons.mpr ⟨lw_p113, List.forall_mem_cons.mpr ⟨lw_p114, List.forall_mem_cons.mpr ⟨lw_p115, List.forall_mem_cons.mpr ⟨lw_p116, List.forall_mem_cons.mpr ⟨lw_p117, fun _ h => absurd h List.not_mem_nil⟩⟩⟩⟩⟩⟩
def lw_privs : List (MethodName × Nat) := lw_privs_1 ++ (lw_privs_2 ++ (lw_privs_3 ++ (lw_privs_4 ++ (lw_privs_5 ++ (lw_privs_6 ++ (lw_privs_7 ++ (lw_privs_8)))))))
def lw_tbl : List Cond := k2_sels lw_privs ++ tables_1
theorem lw_privs_ok : ∀ q ∈ lw_privs, lw_okq q := by
  show ∀ q ∈ lw_privs_1 ++ (lw_privs_2 ++ (lw_privs_3 ++ (lw_privs_4 ++ (lw_privs_5 ++ (lw_privs_6 ++ (lw_privs_7 ++ (lw_privs_8))))))), lw_okq q
  exact List.forall_mem_append.mpr ⟨lw_r1, List.forall_mem_append.mpr ⟨lw_r2, List.forall_mem_append.mpr ⟨lw_r3, List.forall_mem_append.mpr ⟨lw_r4, List.forall_mem_append.mpr ⟨lw_r5, List.forall_mem_append.mpr ⟨lw_r6, List.forall_mem_append.mpr ⟨lw_r7, lw_r8⟩⟩⟩⟩⟩⟩⟩
def RX0 : String := "RueCake$Acts"
def TX0 : u_T := fun k => match k with
  | 0 => ("RueCake$Acts", "kept", "I", false)
  | 1 => ("RueCake$Acts", "next", "I", false)
  | 2 => ("RueCake$Acts", "acts", "[I", true)
  | 3 => ("RueCake$Acts", "ones", "[I", true)
  | _ => ("RueCake$Acts", "others", "[I", true)
def tyX0 : Nat → FieldType := fun k => match k with
  | 0 => .int
  | 1 => .int
  | 2 => .array .int
  | 3 => .array .int
  | _ => .array .int
theorem nmX0 : ∀ a, a < 5 → ∀ b, b < 5 → a ≠ b → (TX0 a).2.1 ≠ (TX0 b).2.1 := by decide +kernel
theorem tyX0_ok : ∀ k, k < 5 → parseFieldDescriptor (TX0 k).2.2.1 = some (tyX0 k) := by decide +kernel
def RX1 : String := "RueCake$Feast"
def TX1 : u_T := fun k => match k with
  | 0 => ("RueCake$Feast", "told", "Z", false)
  | 1 => ("RueCake$Feast", "first", "I", false)
  | 2 => ("RueCake$Feast", "stirring", "I", false)
  | 3 => ("RueCake$Feast", "slices", "I", false)
  | 4 => ("RueCake$Feast", "guests", "I", false)
  | 5 => ("RueCake$Feast", "kinds", "[I", true)
  | 6 => ("RueCake$Feast", "sizes", "[I", true)
  | 7 => ("RueCake$Feast", "rues", "[I", true)
  | 8 => ("RueCake$Feast", "likings", "[I", true)
  | _ => ("RueCake$Feast", "worths", "[I", true)
def tyX1 : Nat → FieldType := fun k => match k with
  | 0 => .boolean
  | 1 => .int
  | 2 => .int
  | 3 => .int
  | 4 => .int
  | 5 => .array .int
  | 6 => .array .int
  | 7 => .array .int
  | 8 => .array .int
  | _ => .array .int
theorem nmX1 : ∀ a, a < 10 → ∀ b, b < 10 → a ≠ b → (TX1 a).2.1 ≠ (TX1 b).2.1 := by decide +kernel
theorem tyX1_ok : ∀ k, k < 10 → parseFieldDescriptor (TX1 k).2.2.1 = some (tyX1 k) := by decide +kernel
def RX2 : String := "RueCake$Outlook"
def TX2 : u_T := fun k => match k with
  | 0 => ("RueCake$Outlook", "now", "LRueCake$State;", true)
  | 1 => ("RueCake$Outlook", "feast", "LRueCake$Feast;", true)
  | 2 => ("RueCake$Outlook", "rules", "[LRueCake$Rule;", true)
  | 3 => ("RueCake$Outlook", "turns", "LRueCake$Turns;", true)
  | 4 => ("RueCake$Outlook", "shares", "LRueCake$Shares;", true)
  | 5 => ("RueCake$Outlook", "table", "LRueCake$Table;", true)
  | 6 => ("RueCake$Outlook", "seen", "[I", true)
  | 7 => ("RueCake$Outlook", "which", "I", false)
  | _ => ("RueCake$Outlook", "much", "I", false)
def tyX2 : Nat → FieldType := fun k => match k with
  | 0 => .object "RueCake$State"
  | 1 => .object "RueCake$Feast"
  | 2 => .array (.object "RueCake$Rule")
  | 3 => .object "RueCake$Turns"
  | 4 => .object "RueCake$Shares"
  | 5 => .object "RueCake$Table"
  | 6 => .array .int
  | 7 => .int
  | _ => .int
theorem nmX2 : ∀ a, a < 9 → ∀ b, b < 9 → a ≠ b → (TX2 a).2.1 ≠ (TX2 b).2.1 := by decide +kernel
theorem tyX2_ok : ∀ k, k < 9 → parseFieldDescriptor (TX2 k).2.2.1 = some (tyX2 k) := by decide +kernel
def RX3 : String := "RueCake$Rule"
def TX3 : u_T := fun k => match k with
  | 0 => ("RueCake$Rule", "code", "[I", true)
  | _ => ("RueCake$Rule", "starts", "[I", true)
def tyX3 : Nat → FieldType := fun k => match k with
  | 0 => .array .int
  | _ => .array .int
theorem nmX3 : ∀ a, a < 2 → ∀ b, b < 2 → a ≠ b → (TX3 a).2.1 ≠ (TX3 b).2.1 := by decide +kernel
theorem tyX3_ok : ∀ k, k < 2 → parseFieldDescriptor (TX3 k).2.2.1 = some (tyX3 k) := by decide +kernel
def RX4 : String := "RueCake$RuleReader"
def TX4 : u_T := fun k => match k with
  | 0 => ("RueCake$RuleReader", "text", "LRueCake$Text;", true)
  | 1 => ("RueCake$RuleReader", "code", "[I", true)
  | 2 => ("RueCake$RuleReader", "starts", "[I", true)
  | 3 => ("RueCake$RuleReader", "size", "I", false)
  | _ => ("RueCake$RuleReader", "parts", "I", false)
def tyX4 : Nat → FieldType := fun k => match k with
  | 0 => .object "RueCake$Text"
  | 1 => .array .int
  | 2 => .array .int
  | 3 => .int
  | _ => .int
theorem nmX4 : ∀ a, a < 5 → ∀ b, b < 5 → a ≠ b → (TX4 a).2.1 ≠ (TX4 b).2.1 := by decide +kernel
theorem tyX4_ok : ∀ k, k < 5 → parseFieldDescriptor (TX4 k).2.2.1 = some (tyX4 k) := by decide +kernel
def RX5 : String := "RueCake$Searches"
def TX5 : u_T := fun k => match k with
  | 0 => ("RueCake$Searches", "feast", "LRueCake$Feast;", true)
  | 1 => ("RueCake$Searches", "table", "LRueCake$Table;", true)
  | 2 => ("RueCake$Searches", "shares", "LRueCake$Shares;", true)
  | 3 => ("RueCake$Searches", "owners", "[I", true)
  | 4 => ("RueCake$Searches", "found", "[I", true)
  | 5 => ("RueCake$Searches", "pieces", "[I", true)
  | 6 => ("RueCake$Searches", "most", "I", false)
  | 7 => ("RueCake$Searches", "ways", "I", false)
  | _ => ("RueCake$Searches", "firstTaken", "I", false)
def tyX5 : Nat → FieldType := fun k => match k with
  | 0 => .object "RueCake$Feast"
  | 1 => .object "RueCake$Table"
  | 2 => .object "RueCake$Shares"
  | 3 => .array .int
  | 4 => .array .int
  | 5 => .array .int
  | 6 => .int
  | 7 => .int
  | _ => .int
theorem nmX5 : ∀ a, a < 9 → ∀ b, b < 9 → a ≠ b → (TX5 a).2.1 ≠ (TX5 b).2.1 := by decide +kernel
theorem tyX5_ok : ∀ k, k < 9 → parseFieldDescriptor (TX5 k).2.2.1 = some (tyX5 k) := by decide +kernel
def RX6 : String := "RueCake$Shares"
def TX6 : u_T := fun k => match k with
  | 0 => ("RueCake$Shares", "feast", "LRueCake$Feast;", true)
  | 1 => ("RueCake$Shares", "scales", "[I", true)
  | 2 => ("RueCake$Shares", "swaps", "I", false)
  | 3 => ("RueCake$Shares", "one", "I", false)
  | _ => ("RueCake$Shares", "other", "I", false)
def tyX6 : Nat → FieldType := fun k => match k with
  | 0 => .object "RueCake$Feast"
  | 1 => .array .int
  | 2 => .int
  | 3 => .int
  | _ => .int
theorem nmX6 : ∀ a, a < 5 → ∀ b, b < 5 → a ≠ b → (TX6 a).2.1 ≠ (TX6 b).2.1 := by decide +kernel
theorem tyX6_ok : ∀ k, k < 5 → parseFieldDescriptor (TX6 k).2.2.1 = some (tyX6 k) := by decide +kernel
def RX7 : String := "RueCake$State"
def TX7 : u_T := fun k => match k with
  | 0 => ("RueCake$State", "feast", "LRueCake$Feast;", true)
  | 1 => ("RueCake$State", "table", "LRueCake$Table;", true)
  | 2 => ("RueCake$State", "inForce", "I", false)
  | 3 => ("RueCake$State", "x", "I", false)
  | 4 => ("RueCake$State", "notes", "I", false)
  | 5 => ("RueCake$State", "noteTurns", "[I", true)
  | 6 => ("RueCake$State", "noteSlices", "[I", true)
  | _ => ("RueCake$State", "noteGuests", "[I", true)
def tyX7 : Nat → FieldType := fun k => match k with
  | 0 => .object "RueCake$Feast"
  | 1 => .object "RueCake$Table"
  | 2 => .int
  | 3 => .int
  | 4 => .int
  | 5 => .array .int
  | 6 => .array .int
  | _ => .array .int
theorem nmX7 : ∀ a, a < 8 → ∀ b, b < 8 → a ≠ b → (TX7 a).2.1 ≠ (TX7 b).2.1 := by decide +kernel
theorem tyX7_ok : ∀ k, k < 8 → parseFieldDescriptor (TX7 k).2.2.1 = some (tyX7 k) := by decide +kernel
def RX8 : String := "RueCake$Table"
def TX8 : u_T := fun k => match k with
  | 0 => ("RueCake$Table", "feast", "LRueCake$Feast;", true)
  | 1 => ("RueCake$Table", "first", "I", false)
  | 2 => ("RueCake$Table", "turn", "I", false)
  | 3 => ("RueCake$Table", "owners", "[I", true)
  | _ => ("RueCake$Table", "rues", "[I", true)
def tyX8 : Nat → FieldType := fun k => match k with
  | 0 => .object "RueCake$Feast"
  | 1 => .int
  | 2 => .int
  | 3 => .array .int
  | _ => .array .int
theorem nmX8 : ∀ a, a < 5 → ∀ b, b < 5 → a ≠ b → (TX8 a).2.1 ≠ (TX8 b).2.1 := by decide +kernel
theorem tyX8_ok : ∀ k, k < 5 → parseFieldDescriptor (TX8 k).2.2.1 = some (tyX8 k) := by decide +kernel
def RX9 : String := "RueCake$Text"
def TX9 : u_T := fun k => match k with
  | 0 => ("RueCake$Text", "bytes", "[B", true)
  | 1 => ("RueCake$Text", "pieces", "[I", true)
  | 2 => ("RueCake$Text", "places", "[I", true)
  | 3 => ("RueCake$Text", "numbers", "[I", true)
  | 4 => ("RueCake$Text", "count", "I", false)
  | 5 => ("RueCake$Text", "at", "I", false)
  | 6 => ("RueCake$Text", "length", "I", false)
  | 7 => ("RueCake$Text", "piece", "I", false)
  | 8 => ("RueCake$Text", "number", "I", false)
  | 9 => ("RueCake$Text", "place", "I", false)
  | _ => ("RueCake$Text", "fault", "I", false)
def tyX9 : Nat → FieldType := fun k => match k with
  | 0 => .array .byte
  | 1 => .array .int
  | 2 => .array .int
  | 3 => .array .int
  | 4 => .int
  | 5 => .int
  | 6 => .int
  | 7 => .int
  | 8 => .int
  | 9 => .int
  | _ => .int
theorem nmX9 : ∀ a, a < 11 → ∀ b, b < 11 → a ≠ b → (TX9 a).2.1 ≠ (TX9 b).2.1 := by decide +kernel
theorem tyX9_ok : ∀ k, k < 11 → parseFieldDescriptor (TX9 k).2.2.1 = some (tyX9 k) := by decide +kernel
def RX10 : String := "RueCake$Turns"
def TX10 : u_T := fun k => match k with
  | 0 => ("RueCake$Turns", "feast", "LRueCake$Feast;", true)
  | 1 => ("RueCake$Turns", "words", "[J", true)
  | _ => ("RueCake$Turns", "stack", "[J", true)
def tyX10 : Nat → FieldType := fun k => match k with
  | 0 => .object "RueCake$Feast"
  | 1 => .array .long
  | _ => .array .long
theorem nmX10 : ∀ a, a < 3 → ∀ b, b < 3 → a ≠ b → (TX10 a).2.1 ≠ (TX10 b).2.1 := by decide +kernel
theorem tyX10_ok : ∀ k, k < 3 → parseFieldDescriptor (TX10 k).2.2.1 = some (tyX10 k) := by decide +kernel
def RX11 : String := "RueCake"
def TX11 : u_T := fun k => match k with
  | 0 => ("RueCake", "tape", "LRueCake$Text;", true)
  | 1 => ("RueCake", "draft", "LRueCake$Feast;", true)
  | 2 => ("RueCake", "ruleReader", "LRueCake$RuleReader;", true)
  | 3 => ("RueCake", "rules", "[LRueCake$Rule;", true)
  | 4 => ("RueCake", "ruleCount", "I", false)
  | 5 => ("RueCake", "now", "LRueCake$State;", true)
  | 6 => ("RueCake", "images", "[LRueCake$State;", true)
  | 7 => ("RueCake", "made", "[Z", true)
  | 8 => ("RueCake", "acts", "LRueCake$Acts;", true)
  | 9 => ("RueCake", "turns", "LRueCake$Turns;", true)
  | 10 => ("RueCake", "shares", "LRueCake$Shares;", true)
  | 11 => ("RueCake", "searches", "LRueCake$Searches;", true)
  | _ => ("RueCake", "outlook", "LRueCake$Outlook;", true)
def tyX11 : Nat → FieldType := fun k => match k with
  | 0 => .object "RueCake$Text"
  | 1 => .object "RueCake$Feast"
  | 2 => .object "RueCake$RuleReader"
  | 3 => .array (.object "RueCake$Rule")
  | 4 => .int
  | 5 => .object "RueCake$State"
  | 6 => .array (.object "RueCake$State")
  | 7 => .array .boolean
  | 8 => .object "RueCake$Acts"
  | 9 => .object "RueCake$Turns"
  | 10 => .object "RueCake$Shares"
  | 11 => .object "RueCake$Searches"
  | _ => .object "RueCake$Outlook"
theorem nmX11 : ∀ a, a < 13 → ∀ b, b < 13 → a ≠ b → (TX11 a).2.1 ≠ (TX11 b).2.1 := by decide +kernel
theorem tyX11_ok : ∀ k, k < 13 → parseFieldDescriptor (TX11 k).2.2.1 = some (tyX11 k) := by decide +kernel
def RX12 : String := "RueCakeModel"
def TX12 : u_T := fun k => match k with
  | 0 => ("RueCakeModel", "tape", "[B", true)
  | 1 => ("RueCakeModel", "taped", "I", false)
  | 2 => ("RueCakeModel", "rules", "I", false)
  | 3 => ("RueCakeModel", "sign", "[I", true)
  | 4 => ("RueCakeModel", "length", "[I", true)
  | 5 => ("RueCakeModel", "clause", "[I", true)
  | 6 => ("RueCakeModel", "clauses", "[I", true)
  | 7 => ("RueCakeModel", "read", "[I", true)
  | 8 => ("RueCakeModel", "next", "I", false)
  | 9 => ("RueCakeModel", "wrong", "I", false)
  | 10 => ("RueCakeModel", "number", "I", false)
  | 11 => ("RueCakeModel", "text", "I", false)
  | 12 => ("RueCakeModel", "made", "I", false)
  | 13 => ("RueCakeModel", "deep", "I", false)
  | 14 => ("RueCakeModel", "lines", "I", false)
  | 15 => ("RueCakeModel", "open", "[I", true)
  | 16 => ("RueCakeModel", "opened", "I", false)
  | 17 => ("RueCakeModel", "stack", "[J", true)
  | 18 => ("RueCakeModel", "top", "I", false)
  | 19 => ("RueCakeModel", "word", "[J", true)
  | 20 => ("RueCakeModel", "said", "[I", true)
  | 21 => ("RueCakeModel", "force", "I", false)
  | 22 => ("RueCakeModel", "x", "I", false)
  | 23 => ("RueCakeModel", "keptKinds", "I", false)
  | 24 => ("RueCakeModel", "wasSaid", "[I", true)
  | 25 => ("RueCakeModel", "undone", "I", false)
  | 26 => ("RueCakeModel", "kept", "[I", true)
  | 27 => ("RueCakeModel", "cutNow", "[I", true)
  | 28 => ("RueCakeModel", "cutBest", "[I", true)
  | 29 => ("RueCakeModel", "cutLeast", "I", false)
  | 30 => ("RueCakeModel", "fairNow", "[I", true)
  | 31 => ("RueCakeModel", "fairMany", "I", false)
  | 32 => ("RueCakeModel", "takenIn", "[I", true)
  | 33 => ("RueCakeModel", "bestIn", "[I", true)
  | 34 => ("RueCakeModel", "isBestIn", "[Z", true)
  | 35 => ("RueCakeModel", "firstTaken", "I", false)
  | 36 => ("RueCakeModel", "isFit", "[Z", true)
  | 37 => ("RueCakeModel", "whoseThen", "[I", true)
  | 38 => ("RueCakeModel", "drawX", "J", false)
  | 39 => ("RueCakeModel", "images", "[I", true)
  | 40 => ("RueCakeModel", "imageForce", "[I", true)
  | 41 => ("RueCakeModel", "imageX", "[I", true)
  | _ => ("RueCakeModel", "isMade", "[Z", true)
def tyX12 : Nat → FieldType := fun k => match k with
  | 0 => .array .byte
  | 1 => .int
  | 2 => .int
  | 3 => .array .int
  | 4 => .array .int
  | 5 => .array .int
  | 6 => .array .int
  | 7 => .array .int
  | 8 => .int
  | 9 => .int
  | 10 => .int
  | 11 => .int
  | 12 => .int
  | 13 => .int
  | 14 => .int
  | 15 => .array .int
  | 16 => .int
  | 17 => .array .long
  | 18 => .int
  | 19 => .array .long
  | 20 => .array .int
  | 21 => .int
  | 22 => .int
  | 23 => .int
  | 24 => .array .int
  | 25 => .int
  | 26 => .array .int
  | 27 => .array .int
  | 28 => .array .int
  | 29 => .int
  | 30 => .array .int
  | 31 => .int
  | 32 => .array .int
  | 33 => .array .int
  | 34 => .array .boolean
  | 35 => .int
  | 36 => .array .boolean
  | 37 => .array .int
  | 38 => .long
  | 39 => .array .int
  | 40 => .array .int
  | 41 => .array .int
  | _ => .array .boolean
theorem nmX12 : ∀ a, a < 43 → ∀ b, b < 43 → a ≠ b → (TX12 a).2.1 ≠ (TX12 b).2.1 := by decide +kernel
theorem tyX12_ok : ∀ k, k < 43 → parseFieldDescriptor (TX12 k).2.2.1 = some (tyX12 k) := by decide +kernel
