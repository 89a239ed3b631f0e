-- ===== PART A: goes FIRST, ahead of the names: the tables' words, and 'selects' of the private methods out of them =====
/-- a private method of a class that the tables say can be made, by its rows of tables_1 -/
def lw_okq (q : MethodName × Nat) : Prop := (q.1.cls ≠ "java/lang/invoke/MethodHandle" ∧ q.1.cls ≠ "java/lang/invoke/VarHandle") ∧ Cond.instantiable q.1.cls q.2 ∈ tables_1 ∧ Cond.privateMethod q.1 ∈ tables_1 ∧ Cond.instanceMethod q.1 ∈ tables_1
theorem lw_p0 : lw_okq (⟨"FoxRounds", "error", "(I)I"⟩, 8) := ⟨⟨by decide +kernel, by decide +kernel⟩, List.mem_of_getElem? (i := 20) (by decide +kernel), List.mem_of_getElem? (i := 360) (by decide +kernel), List.mem_of_getElem? (i := 361) (by decide +kernel)⟩
theorem lw_p1 : lw_okq (⟨"FoxRounds$House", "ease", "([I)I"⟩, 9) := ⟨⟨by decide +kernel, by decide +kernel⟩, List.mem_of_getElem? (i := 34) (by decide +kernel), List.mem_of_getElem? (i := 389) (by decide +kernel), List.mem_of_getElem? (i := 390) (by decide +kernel)⟩
theorem lw_p2 : lw_okq (⟨"FoxRounds$House", "doorEase", "([I)I"⟩, 9) := ⟨⟨by decide +kernel, by decide +kernel⟩, List.mem_of_getElem? (i := 34) (by decide +kernel), List.mem_of_getElem? (i := 393) (by decide +kernel), List.mem_of_getElem? (i := 394) (by decide +kernel)⟩
theorem lw_p3 : lw_okq (⟨"FoxRounds$House", "month", "()I"⟩, 9) := ⟨⟨by decide +kernel, by decide +kernel⟩, List.mem_of_getElem? (i := 34) (by decide +kernel), List.mem_of_getElem? (i := 397) (by decide +kernel), List.mem_of_getElem? (i := 398) (by decide +kernel)⟩
theorem lw_p4 : lw_okq (⟨"FoxRounds$House", "dugEase", "([I)I"⟩, 9) := ⟨⟨by decide +kernel, by decide +kernel⟩, List.mem_of_getElem? (i := 34) (by decide +kernel), List.mem_of_getElem? (i := 401) (by decide +kernel), List.mem_of_getElem? (i := 402) (by decide +kernel)⟩
theorem lw_p5 : lw_okq (⟨"FoxRounds$House", "looseEase", "([I)I"⟩, 9) := ⟨⟨by decide +kernel, by decide +kernel⟩, List.mem_of_getElem? (i := 34) (by decide +kernel), List.mem_of_getElem? (i := 405) (by decide +kernel), List.mem_of_getElem? (i := 406) (by decide +kernel)⟩
theorem lw_p6 : lw_okq (⟨"FoxRounds", "sheetError", "(I)I"⟩, 8) := ⟨⟨by decide +kernel, by decide +kernel⟩, List.mem_of_getElem? (i := 20) (by decide +kernel), List.mem_of_getElem? (i := 426) (by decide +kernel), List.mem_of_getElem? (i := 427) (by decide +kernel)⟩
theorem lw_p7 : lw_okq (⟨"FoxRounds$Reader", "begin", "()V"⟩, 10) := ⟨⟨by decide +kernel, by decide +kernel⟩, List.mem_of_getElem? (i := 237) (by decide +kernel), List.mem_of_getElem? (i := 503) (by decide +kernel), List.mem_of_getElem? (i := 504) (by decide +kernel)⟩
theorem lw_p8 : lw_okq (⟨"FoxRounds$Reader", "takeOperand", "(I)Z"⟩, 10) := ⟨⟨by decide +kernel, by decide +kernel⟩, List.mem_of_getElem? (i := 237) (by decide +kernel), List.mem_of_getElem? (i := 511) (by decide +kernel), List.mem_of_getElem? (i := 512) (by decide +kernel)⟩
theorem lw_p9 : lw_okq (⟨"FoxRounds$Reader", "takeOpening", "(I)Z"⟩, 10) := ⟨⟨by decide +kernel, by decide +kernel⟩, List.mem_of_getElem? (i := 237) (by decide +kernel), List.mem_of_getElem? (i := 515) (by decide +kernel), List.mem_of_getElem? (i := 516) (by decide +kernel)⟩
theorem lw_p10 : lw_okq (⟨"FoxRounds$Reader", "pushSign", "(I)V"⟩, 10) := ⟨⟨by decide +kernel, by decide +kernel⟩, List.mem_of_getElem? (i := 237) (by decide +kernel), List.mem_of_getElem? (i := 519) (by decide +kernel), List.mem_of_getElem? (i := 520) (by decide +kernel)⟩
theorem lw_p11 : lw_okq (⟨"FoxRounds$Reader", "takeNumber", "()V"⟩, 10) := ⟨⟨by decide +kernel, by decide +kernel⟩, List.mem_of_getElem? (i := 237) (by decide +kernel), List.mem_of_getElem? (i := 611) (by decide +kernel), List.mem_of_getElem? (i := 612) (by decide +kernel)⟩
theorem lw_p12 : lw_okq (⟨"FoxRounds$Reader", "endOperand", "()V"⟩, 10) := ⟨⟨by decide +kernel, by decide +kernel⟩, List.mem_of_getElem? (i := 237) (by decide +kernel), List.mem_of_getElem? (i := 615) (by decide +kernel), List.mem_of_getElem? (i := 616) (by decide +kernel)⟩
theorem lw_p13 : lw_okq (⟨"FoxRounds$Reader", "takeFollower", "(I)Z"⟩, 10) := ⟨⟨by decide +kernel, by decide +kernel⟩, List.mem_of_getElem? (i := 237) (by decide +kernel), List.mem_of_getElem? (i := 619) (by decide +kernel), List.mem_of_getElem? (i := 620) (by decide +kernel)⟩
theorem lw_p14 : lw_okq (⟨"FoxRounds$Reader", "takeClosing", "()Z"⟩, 10) := ⟨⟨by decide +kernel, by decide +kernel⟩, List.mem_of_getElem? (i := 237) (by decide +kernel), List.mem_of_getElem? (i := 623) (by decide +kernel), List.mem_of_getElem? (i := 624) (by decide +kernel)⟩
theorem lw_p15 : lw_okq (⟨"FoxRounds$Reader", "popDownTo", "(I)V"⟩, 10) := ⟨⟨by decide +kernel, by decide +kernel⟩, List.mem_of_getElem? (i := 237) (by decide +kernel), List.mem_of_getElem? (i := 627) (by decide +kernel), List.mem_of_getElem? (i := 628) (by decide +kernel)⟩
def lw_privs_1 : List (MethodName × Nat) := [(⟨"FoxRounds", "error", "(I)I"⟩, 8), (⟨"FoxRounds$House", "ease", "([I)I"⟩, 9), (⟨"FoxRounds$House", "doorEase", "([I)I"⟩, 9), (⟨"FoxRounds$House", "month", "()I"⟩, 9), (⟨"FoxRounds$House", "dugEase", "([I)I"⟩, 9), (⟨"FoxRounds$House", "looseEase", "([I)I"⟩, 9), (⟨"FoxRounds", "sheetError", "(I)I"⟩, 8), (⟨"FoxRounds$Reader", "begin", "()V"⟩, 10), (⟨"FoxRounds$Reader", "takeOperand", "(I)Z"⟩, 10), (⟨"FoxRounds$Reader", "takeOpening", "(I)Z"⟩, 10), (⟨"FoxRounds$Reader", "pushSign", "(I)V"⟩, 10), (⟨"FoxRounds$Reader", "takeNumber", "()V"⟩, 10), (⟨"FoxRounds$Reader", "endOperand", "()V"⟩, 10), (⟨"FoxRounds$Reader", "takeFollower", "(I)Z"⟩, 10), (⟨"FoxRounds$Reader", "takeClosing", "()Z"⟩, 10), (⟨"FoxRounds$Reader", "popDownTo", "(I)V"⟩, 10)]
theorem lw_r1 : ∀ q ∈ lw_privs_1, lw_okq q := List.forall_mem_cons.mpr ⟨lw_p0, List.forall_mem_cons.mpr ⟨lw_p1, List.forall_mem_cons.mpr ⟨lw_p2, List.forall_mem_cons.mpr ⟨lw_p3, List.forall_mem_cons.mpr ⟨lw_p4, List.forall_mem_cons.mpr ⟨lw_p5, List.forall_mem_cons.mpr ⟨lw_p6, List.forall_mem_cons.mpr ⟨lw_p7, List.forall_mem_cons.mpr ⟨lw_p8, List.forall_mem_cons.mpr ⟨lw_p9, List.forall_mem_cons.mpr ⟨lw_p10, List.forall_mem_cons.mpr ⟨lw_p11, List.forall_mem_cons.mpr ⟨lw_p12, List.forall_mem_cons.mpr ⟨lw_p13, List.forall_mem_cons.mpr ⟨lw_p14, List.forall_mem_cons.mpr ⟨lw_p15, fun _ h => absurd h List.not_mem_nil⟩⟩⟩⟩⟩⟩⟩⟩⟩⟩⟩⟩⟩⟩⟩⟩
theorem lw_p16 : lw_okq (⟨"FoxRounds", "nightsError", "(I)I"⟩, 8) := ⟨⟨by decide +kernel, by decide +kernel⟩, List.mem_of_getElem? (i := 20) (by decide +kernel), List.mem_of_getElem? (i := 676) (by decide +kernel), List.mem_of_getElem? (i := 677) (by decide +kernel)⟩
theorem lw_p17 : lw_okq (⟨"FoxRounds$House", "goRound", "(LFoxRounds$Laws;)I"⟩, 9) := ⟨⟨by decide +kernel, by decide +kernel⟩, List.mem_of_getElem? (i := 34) (by decide +kernel), List.mem_of_getElem? (i := 684) (by decide +kernel), List.mem_of_getElem? (i := 685) (by decide +kernel)⟩
theorem lw_p18 : lw_okq (⟨"FoxRounds$House", "orderByMemory", "()V"⟩, 9) := ⟨⟨by decide +kernel, by decide +kernel⟩, List.mem_of_getElem? (i := 34) (by decide +kernel), List.mem_of_getElem? (i := 688) (by decide +kernel), List.mem_of_getElem? (i := 689) (by decide +kernel)⟩
theorem lw_p19 : lw_okq (⟨"FoxRounds$House", "turnAway", "([IZ)V"⟩, 9) := ⟨⟨by decide +kernel, by decide +kernel⟩, List.mem_of_getElem? (i := 34) (by decide +kernel), List.mem_of_getElem? (i := 694) (by decide +kernel), List.mem_of_getElem? (i := 695) (by decide +kernel)⟩
theorem lw_p20 : lw_okq (⟨"FoxRounds$House", "comeIn", "([ILFoxRounds$Laws;)V"⟩, 9) := ⟨⟨by decide +kernel, by decide +kernel⟩, List.mem_of_getElem? (i := 34) (by decide +kernel), List.mem_of_getElem? (i := 699) (by decide +kernel), List.mem_of_getElem? (i := 700) (by decide +kernel)⟩
theorem lw_p21 : lw_okq (⟨"FoxRounds$Ahead", "costOf", "(I)I"⟩, 8) := ⟨⟨by decide +kernel, by decide +kernel⟩, List.mem_of_getElem? (i := 201) (by decide +kernel), List.mem_of_getElem? (i := 753) (by decide +kernel), List.mem_of_getElem? (i := 754) (by decide +kernel)⟩
theorem lw_p22 : lw_okq (⟨"FoxRounds$Ahead", "hensMended", "(II)I"⟩, 8) := ⟨⟨by decide +kernel, by decide +kernel⟩, List.mem_of_getElem? (i := 201) (by decide +kernel), List.mem_of_getElem? (i := 757) (by decide +kernel), List.mem_of_getElem? (i := 758) (by decide +kernel)⟩
theorem lw_p23 : lw_okq (⟨"FoxRounds$Ahead", "arrange", "(II)V"⟩, 8) := ⟨⟨by decide +kernel, by decide +kernel⟩, List.mem_of_getElem? (i := 201) (by decide +kernel), List.mem_of_getElem? (i := 778) (by decide +kernel), List.mem_of_getElem? (i := 779) (by decide +kernel)⟩
theorem lw_p24 : lw_okq (⟨"FoxRounds$Ahead", "listIdle", "()V"⟩, 8) := ⟨⟨by decide +kernel, by decide +kernel⟩, List.mem_of_getElem? (i := 201) (by decide +kernel), List.mem_of_getElem? (i := 782) (by decide +kernel), List.mem_of_getElem? (i := 783) (by decide +kernel)⟩
theorem lw_p25 : lw_okq (⟨"FoxRounds$Ahead", "hensHung", "(II)I"⟩, 8) := ⟨⟨by decide +kernel, by decide +kernel⟩, List.mem_of_getElem? (i := 201) (by decide +kernel), List.mem_of_getElem? (i := 788) (by decide +kernel), List.mem_of_getElem? (i := 789) (by decide +kernel)⟩
theorem lw_p26 : lw_okq (⟨"FoxRounds$Village", "changesInARound", "()Z"⟩, 5) := ⟨⟨by decide +kernel, by decide +kernel⟩, List.mem_of_getElem? (i := 137) (by decide +kernel), List.mem_of_getElem? (i := 831) (by decide +kernel), List.mem_of_getElem? (i := 832) (by decide +kernel)⟩
theorem lw_p27 : lw_okq (⟨"FoxRounds$Village", "firstOpen", "()I"⟩, 5) := ⟨⟨by decide +kernel, by decide +kernel⟩, List.mem_of_getElem? (i := 137) (by decide +kernel), List.mem_of_getElem? (i := 835) (by decide +kernel), List.mem_of_getElem? (i := 836) (by decide +kernel)⟩
theorem lw_p28 : lw_okq (⟨"FoxRounds$Voices", "tries", "(III)I"⟩, 5) := ⟨⟨by decide +kernel, by decide +kernel⟩, List.mem_of_getElem? (i := 278) (by decide +kernel), List.mem_of_getElem? (i := 879) (by decide +kernel), List.mem_of_getElem? (i := 880) (by decide +kernel)⟩
theorem lw_p29 : lw_okq (⟨"FoxRounds$Voices", "begin", "(I)V"⟩, 5) := ⟨⟨by decide +kernel, by decide +kernel⟩, List.mem_of_getElem? (i := 278) (by decide +kernel), List.mem_of_getElem? (i := 883) (by decide +kernel), List.mem_of_getElem? (i := 884) (by decide +kernel)⟩
theorem lw_p30 : lw_okq (⟨"FoxRounds$Voices", "fears", "(III)I"⟩, 5) := ⟨⟨by decide +kernel, by decide +kernel⟩, List.mem_of_getElem? (i := 278) (by decide +kernel), List.mem_of_getElem? (i := 887) (by decide +kernel), List.mem_of_getElem? (i := 888) (by decide +kernel)⟩
theorem lw_p31 : lw_okq (⟨"FoxRounds$Voices", "shuts", "(III)I"⟩, 5) := ⟨⟨by decide +kernel, by decide +kernel⟩, List.mem_of_getElem? (i := 278) (by decide +kernel), List.mem_of_getElem? (i := 891) (by decide +kernel), List.mem_of_getElem? (i := 892) (by decide +kernel)⟩
def lw_privs_2 : List (MethodName × Nat) := [(⟨"FoxRounds", "nightsError", "(I)I"⟩, 8), (⟨"FoxRounds$House", "goRound", "(LFoxRounds$Laws;)I"⟩, 9), (⟨"FoxRounds$House", "orderByMemory", "()V"⟩, 9), (⟨"FoxRounds$House", "turnAway", "([IZ)V"⟩, 9), (⟨"FoxRounds$House", "comeIn", "([ILFoxRounds$Laws;)V"⟩, 9), (⟨"FoxRounds$Ahead", "costOf", "(I)I"⟩, 8), (⟨"FoxRounds$Ahead", "hensMended", "(II)I"⟩, 8), (⟨"FoxRounds$Ahead", "arrange", "(II)V"⟩, 8), (⟨"FoxRounds$Ahead", "listIdle", "()V"⟩, 8), (⟨"FoxRounds$Ahead", "hensHung", "(II)I"⟩, 8), (⟨"FoxRounds$Village", "changesInARound", "()Z"⟩, 5), (⟨"FoxRounds$Village", "firstOpen", "()I"⟩, 5), (⟨"FoxRounds$Voices", "tries", "(III)I"⟩, 5), (⟨"FoxRounds$Voices", "begin", "(I)V"⟩, 5), (⟨"FoxRounds$Voices", "fears", "(III)I"⟩, 5), (⟨"FoxRounds$Voices", "shuts", "(III)I"⟩, 5)]
theorem lw_r2 : ∀ q ∈ lw_privs_2, lw_okq q := List.forall_mem_cons.mpr ⟨lw_p16, List.forall_mem_cons.mpr ⟨lw_p17, List.forall_mem_cons.mpr ⟨lw_p18, List.forall_mem_cons.mpr ⟨lw_p19, List.forall_mem_cons.mpr ⟨lw_p20, List.forall_mem_cons.mpr ⟨lw_p21, List.forall_mem_cons.mpr ⟨lw_p22, List.forall_mem_cons.mpr ⟨lw_p23, List.forall_mem_cons.mpr ⟨lw_p24, List.forall_mem_cons.mpr ⟨lw_p25, List.forall_mem_cons.mpr ⟨lw_p26, List.forall_mem_cons.mpr ⟨lw_p27, List.forall_mem_cons.mpr ⟨lw_p28, List.forall_mem_cons.mpr ⟨lw_p29, List.forall_mem_cons.mpr ⟨lw_p30, List.forall_mem_cons.mpr ⟨lw_p31, fun _ h => absurd h List.not_mem_nil⟩⟩⟩⟩⟩⟩⟩⟩⟩⟩⟩⟩⟩⟩⟩⟩
theorem lw_p32 : lw_okq (⟨"FoxRounds$Voices", "tells", "(III)I"⟩, 5) := ⟨⟨by decide +kernel, by decide +kernel⟩, List.mem_of_getElem? (i := 278) (by decide +kernel), List.mem_of_getElem? (i := 895) (by decide +kernel), List.mem_of_getElem? (i := 896) (by decide +kernel)⟩
theorem lw_p33 : lw_okq (⟨"FoxRoundsModel", "finds", "(I)I"⟩, 22) := ⟨⟨by decide +kernel, by decide +kernel⟩, List.mem_of_getElem? (i := 972) (by decide +kernel), List.mem_of_getElem? (i := 1054) (by decide +kernel), List.mem_of_getElem? (i := 1055) (by decide +kernel)⟩
theorem lw_p34 : lw_okq (⟨"FoxRoundsModel", "worked", "(III)I"⟩, 22) := ⟨⟨by decide +kernel, by decide +kernel⟩, List.mem_of_getElem? (i := 972) (by decide +kernel), List.mem_of_getElem? (i := 1065) (by decide +kernel), List.mem_of_getElem? (i := 1066) (by decide +kernel)⟩
theorem lw_p35 : lw_okq (⟨"FoxRoundsModel", "either", "()I"⟩, 22) := ⟨⟨by decide +kernel, by decide +kernel⟩, List.mem_of_getElem? (i := 972) (by decide +kernel), List.mem_of_getElem? (i := 1069) (by decide +kernel), List.mem_of_getElem? (i := 1070) (by decide +kernel)⟩
theorem lw_p36 : lw_okq (⟨"FoxRoundsModel", "both", "()I"⟩, 22) := ⟨⟨by decide +kernel, by decide +kernel⟩, List.mem_of_getElem? (i := 972) (by decide +kernel), List.mem_of_getElem? (i := 1073) (by decide +kernel), List.mem_of_getElem? (i := 1074) (by decide +kernel)⟩
theorem lw_p37 : lw_okq (⟨"FoxRoundsModel", "compared", "()I"⟩, 22) := ⟨⟨by decide +kernel, by decide +kernel⟩, List.mem_of_getElem? (i := 972) (by decide +kernel), List.mem_of_getElem? (i := 1077) (by decide +kernel), List.mem_of_getElem? (i := 1078) (by decide +kernel)⟩
theorem lw_p38 : lw_okq (⟨"FoxRoundsModel", "sum", "()I"⟩, 22) := ⟨⟨by decide +kernel, by decide +kernel⟩, List.mem_of_getElem? (i := 972) (by decide +kernel), List.mem_of_getElem? (i := 1081) (by decide +kernel), List.mem_of_getElem? (i := 1082) (by decide +kernel)⟩
theorem lw_p39 : lw_okq (⟨"FoxRoundsModel", "product", "()I"⟩, 22) := ⟨⟨by decide +kernel, by decide +kernel⟩, List.mem_of_getElem? (i := 972) (by decide +kernel), List.mem_of_getElem? (i := 1085) (by decide +kernel), List.mem_of_getElem? (i := 1086) (by decide +kernel)⟩
theorem lw_p40 : lw_okq (⟨"FoxRoundsModel", "unit", "()I"⟩, 22) := ⟨⟨by decide +kernel, by decide +kernel⟩, List.mem_of_getElem? (i := 972) (by decide +kernel), List.mem_of_getElem? (i := 1089) (by decide +kernel), List.mem_of_getElem? (i := 1090) (by decide +kernel)⟩
theorem lw_p41 : lw_okq (⟨"FoxRoundsModel", "here", "()I"⟩, 22) := ⟨⟨by decide +kernel, by decide +kernel⟩, List.mem_of_getElem? (i := 972) (by decide +kernel), List.mem_of_getElem? (i := 1093) (by decide +kernel), List.mem_of_getElem? (i := 1094) (by decide +kernel)⟩
theorem lw_p42 : lw_okq (⟨"FoxRoundsModel", "wrong", "()I"⟩, 22) := ⟨⟨by decide +kernel, by decide +kernel⟩, List.mem_of_getElem? (i := 972) (by decide +kernel), List.mem_of_getElem? (i := 1097) (by decide +kernel), List.mem_of_getElem? (i := 1098) (by decide +kernel)⟩
theorem lw_p43 : lw_okq (⟨"FoxRoundsModel", "takes", "(I)Z"⟩, 22) := ⟨⟨by decide +kernel, by decide +kernel⟩, List.mem_of_getElem? (i := 972) (by decide +kernel), List.mem_of_getElem? (i := 1101) (by decide +kernel), List.mem_of_getElem? (i := 1102) (by decide +kernel)⟩
theorem lw_p44 : lw_okq (⟨"FoxRoundsModel", "nameOf", "(I)I"⟩, 22) := ⟨⟨by decide +kernel, by decide +kernel⟩, List.mem_of_getElem? (i := 972) (by decide +kernel), List.mem_of_getElem? (i := 1105) (by decide +kernel), List.mem_of_getElem? (i := 1106) (by decide +kernel)⟩
theorem lw_p45 : lw_okq (⟨"FoxRoundsModel", "isNamed", "(III)V"⟩, 22) := ⟨⟨by decide +kernel, by decide +kernel⟩, List.mem_of_getElem? (i := 972) (by decide +kernel), List.mem_of_getElem? (i := 1115) (by decide +kernel), List.mem_of_getElem? (i := 1116) (by decide +kernel)⟩
theorem lw_p46 : lw_okq (⟨"FoxRoundsModel", "byText", "(I)I"⟩, 22) := ⟨⟨by decide +kernel, by decide +kernel⟩, List.mem_of_getElem? (i := 972) (by decide +kernel), List.mem_of_getElem? (i := 1119) (by decide +kernel), List.mem_of_getElem? (i := 1120) (by decide +kernel)⟩
theorem lw_p47 : lw_okq (⟨"FoxRoundsModel", "killsOf", "(III)I"⟩, 22) := ⟨⟨by decide +kernel, by decide +kernel⟩, List.mem_of_getElem? (i := 972) (by decide +kernel), List.mem_of_getElem? (i := 1123) (by decide +kernel), List.mem_of_getElem? (i := 1124) (by decide +kernel)⟩
def lw_privs_3 : List (MethodName × Nat) := [(⟨"FoxRounds$Voices", "tells", "(III)I"⟩, 5), (⟨"FoxRoundsModel", "finds", "(I)I"⟩, 22), (⟨"FoxRoundsModel", "worked", "(III)I"⟩, 22), (⟨"FoxRoundsModel", "either", "()I"⟩, 22), (⟨"FoxRoundsModel", "both", "()I"⟩, 22), (⟨"FoxRoundsModel", "compared", "()I"⟩, 22), (⟨"FoxRoundsModel", "sum", "()I"⟩, 22), (⟨"FoxRoundsModel", "product", "()I"⟩, 22), (⟨"FoxRoundsModel", "unit", "()I"⟩, 22), (⟨"FoxRoundsModel", "here", "()I"⟩, 22), (⟨"FoxRoundsModel", "wrong", "()I"⟩, 22), (⟨"FoxRoundsModel", "takes", "(I)Z"⟩, 22), (⟨"FoxRoundsModel", "nameOf", "(I)I"⟩, 22), (⟨"FoxRoundsModel", "isNamed", "(III)V"⟩, 22), (⟨"FoxRoundsModel", "byText", "(I)I"⟩, 22), (⟨"FoxRoundsModel", "killsOf", "(III)I"⟩, 22)]
theorem lw_r3 : ∀ q ∈ lw_privs_3, lw_okq q := List.forall_mem_cons.mpr ⟨lw_p32, List.forall_mem_cons.mpr ⟨lw_p33, List.forall_mem_cons.mpr ⟨lw_p34, List.forall_mem_cons.mpr ⟨lw_p35, List.forall_mem_cons.mpr ⟨lw_p36, List.forall_mem_cons.mpr ⟨lw_p37, List.forall_mem_cons.mpr ⟨lw_p38, List.forall_mem_cons.mpr ⟨lw_p39, List.forall_mem_cons.mpr ⟨lw_p40, List.forall_mem_cons.mpr ⟨lw_p41, List.forall_mem_cons.mpr ⟨lw_p42, List.forall_mem_cons.mpr ⟨lw_p43, List.forall_mem_cons.mpr ⟨lw_p44, List.forall_mem_cons.mpr ⟨lw_p45, List.forall_mem_cons.mpr ⟨lw_p46, List.forall_mem_cons.mpr ⟨lw_p47, fun _ h => absurd h List.not_mem_nil⟩⟩⟩⟩⟩⟩⟩⟩⟩⟩⟩⟩⟩⟩⟩⟩
theorem lw_p48 : lw_okq (⟨"FoxRoundsModel", "staysOf", "(II)I"⟩, 22) := ⟨⟨by decide +kernel, by decide +kernel⟩, List.mem_of_getElem? (i := 972) (by decide +kernel), List.mem_of_getElem? (i := 1127) (by decide +kernel), List.mem_of_getElem? (i := 1128) (by decide +kernel)⟩
theorem lw_p49 : lw_okq (⟨"FoxRoundsModel", "comes", "(III)I"⟩, 22) := ⟨⟨by decide +kernel, by decide +kernel⟩, List.mem_of_getElem? (i := 972) (by decide +kernel), List.mem_of_getElem? (i := 1157) (by decide +kernel), List.mem_of_getElem? (i := 1158) (by decide +kernel)⟩
theorem lw_p50 : lw_okq (⟨"FoxRoundsModel", "isWay", "(I)Z"⟩, 22) := ⟨⟨by decide +kernel, by decide +kernel⟩, List.mem_of_getElem? (i := 972) (by decide +kernel), List.mem_of_getElem? (i := 1165) (by decide +kernel), List.mem_of_getElem? (i := 1166) (by decide +kernel)⟩
theorem lw_p51 : lw_okq (⟨"FoxRoundsModel", "isThing", "(I)Z"⟩, 22) := ⟨⟨by decide +kernel, by decide +kernel⟩, List.mem_of_getElem? (i := 972) (by decide +kernel), List.mem_of_getElem? (i := 1211) (by decide +kernel), List.mem_of_getElem? (i := 1212) (by decide +kernel)⟩
theorem lw_p52 : lw_okq (⟨"FoxRoundsModel", "goesOn", "([II)V"⟩, 22) := ⟨⟨by decide +kernel, by decide +kernel⟩, List.mem_of_getElem? (i := 972) (by decide +kernel), List.mem_of_getElem? (i := 1237) (by decide +kernel), List.mem_of_getElem? (i := 1238) (by decide +kernel)⟩
theorem lw_p53 : lw_okq (⟨"FoxRoundsModel", "goesBy", "([I)I"⟩, 22) := ⟨⟨by decide +kernel, by decide +kernel⟩, List.mem_of_getElem? (i := 972) (by decide +kernel), List.mem_of_getElem? (i := 1241) (by decide +kernel), List.mem_of_getElem? (i := 1242) (by decide +kernel)⟩
theorem lw_p54 : lw_okq (⟨"FoxRoundsModel", "goesRound", "([I)I"⟩, 22) := ⟨⟨by decide +kernel, by decide +kernel⟩, List.mem_of_getElem? (i := 972) (by decide +kernel), List.mem_of_getElem? (i := 1245) (by decide +kernel), List.mem_of_getElem? (i := 1246) (by decide +kernel)⟩
theorem lw_p55 : lw_okq (⟨"FoxRoundsModel", "nextWay", "([I)I"⟩, 22) := ⟨⟨by decide +kernel, by decide +kernel⟩, List.mem_of_getElem? (i := 972) (by decide +kernel), List.mem_of_getElem? (i := 1249) (by decide +kernel), List.mem_of_getElem? (i := 1250) (by decide +kernel)⟩
theorem lw_p56 : lw_okq (⟨"FoxRoundsModel", "tries", "([II)Z"⟩, 22) := ⟨⟨by decide +kernel, by decide +kernel⟩, List.mem_of_getElem? (i := 972) (by decide +kernel), List.mem_of_getElem? (i := 1253) (by decide +kernel), List.mem_of_getElem? (i := 1254) (by decide +kernel)⟩
theorem lw_p57 : lw_okq (⟨"FoxRoundsModel", "enters", "([IIII)Z"⟩, 22) := ⟨⟨by decide +kernel, by decide +kernel⟩, List.mem_of_getElem? (i := 972) (by decide +kernel), List.mem_of_getElem? (i := 1257) (by decide +kernel), List.mem_of_getElem? (i := 1258) (by decide +kernel)⟩
theorem lw_p58 : lw_okq (⟨"FoxRoundsModel", "ahead", "(I)V"⟩, 22) := ⟨⟨by decide +kernel, by decide +kernel⟩, List.mem_of_getElem? (i := 972) (by decide +kernel), List.mem_of_getElem? (i := 1275) (by decide +kernel), List.mem_of_getElem? (i := 1276) (by decide +kernel)⟩
theorem lw_p59 : lw_okq (⟨"FoxRoundsModel", "orders", "(II)V"⟩, 22) := ⟨⟨by decide +kernel, by decide +kernel⟩, List.mem_of_getElem? (i := 972) (by decide +kernel), List.mem_of_getElem? (i := 1303) (by decide +kernel), List.mem_of_getElem? (i := 1304) (by decide +kernel)⟩
theorem lw_p60 : lw_okq (⟨"FoxRoundsModel", "harmOf", "(I)I"⟩, 22) := ⟨⟨by decide +kernel, by decide +kernel⟩, List.mem_of_getElem? (i := 972) (by decide +kernel), List.mem_of_getElem? (i := 1317) (by decide +kernel), List.mem_of_getElem? (i := 1318) (by decide +kernel)⟩
theorem lw_p61 : lw_okq (⟨"FoxRoundsModel", "whyNoSigns", "(I)I"⟩, 22) := ⟨⟨by decide +kernel, by decide +kernel⟩, List.mem_of_getElem? (i := 972) (by decide +kernel), List.mem_of_getElem? (i := 1345) (by decide +kernel), List.mem_of_getElem? (i := 1346) (by decide +kernel)⟩
theorem lw_p62 : lw_okq (⟨"FoxRoundsModel", "offIn", "([II)I"⟩, 22) := ⟨⟨by decide +kernel, by decide +kernel⟩, List.mem_of_getElem? (i := 972) (by decide +kernel), List.mem_of_getElem? (i := 1349) (by decide +kernel), List.mem_of_getElem? (i := 1350) (by decide +kernel)⟩
theorem lw_p63 : lw_okq (⟨"FoxRoundsModel", "own", "()I"⟩, 22) := ⟨⟨by decide +kernel, by decide +kernel⟩, List.mem_of_getElem? (i := 972) (by decide +kernel), List.mem_of_getElem? (i := 1366) (by decide +kernel), List.mem_of_getElem? (i := 1367) (by decide +kernel)⟩
def lw_privs_4 : List (MethodName × Nat) := [(⟨"FoxRoundsModel", "staysOf", "(II)I"⟩, 22), (⟨"FoxRoundsModel", "comes", "(III)I"⟩, 22), (⟨"FoxRoundsModel", "isWay", "(I)Z"⟩, 22), (⟨"FoxRoundsModel", "isThing", "(I)Z"⟩, 22), (⟨"FoxRoundsModel", "goesOn", "([II)V"⟩, 22), (⟨"FoxRoundsModel", "goesBy", "([I)I"⟩, 22), (⟨"FoxRoundsModel", "goesRound", "([I)I"⟩, 22), (⟨"FoxRoundsModel", "nextWay", "([I)I"⟩, 22), (⟨"FoxRoundsModel", "tries", "([II)Z"⟩, 22), (⟨"FoxRoundsModel", "enters", "([IIII)Z"⟩, 22), (⟨"FoxRoundsModel", "ahead", "(I)V"⟩, 22), (⟨"FoxRoundsModel", "orders", "(II)V"⟩, 22), (⟨"FoxRoundsModel", "harmOf", "(I)I"⟩, 22), (⟨"FoxRoundsModel", "whyNoSigns", "(I)I"⟩, 22), (⟨"FoxRoundsModel", "offIn", "([II)I"⟩, 22), (⟨"FoxRoundsModel", "own", "()I"⟩, 22)]
theorem lw_r4 : ∀ q ∈ lw_privs_4, lw_okq q := List.forall_mem_cons.mpr ⟨lw_p48, List.forall_mem_cons.mpr ⟨lw_p49, List.forall_mem_cons.mpr ⟨lw_p50, List.forall_mem_cons.mpr ⟨lw_p51, List.forall_mem_cons.mpr ⟨lw_p52, List.forall_mem_cons.mpr ⟨lw_p53, List.forall_mem_cons.mpr ⟨lw_p54, List.forall_mem_cons.mpr ⟨lw_p55, List.forall_mem_cons.mpr ⟨lw_p56, List.forall_mem_cons.mpr ⟨lw_p57, List.forall_mem_cons.mpr ⟨lw_p58, List.forall_mem_cons.mpr ⟨lw_p59, List.forall_mem_cons.mpr ⟨lw_p60, List.forall_mem_cons.mpr ⟨lw_p61, List.forall_mem_cons.mpr ⟨lw_p62, List.forall_mem_cons.mpr ⟨lw_p63, fun _ h => absurd h List.not_mem_nil⟩⟩⟩⟩⟩⟩⟩⟩⟩⟩⟩⟩⟩⟩⟩⟩
theorem lw_p64 : lw_okq (⟨"FoxRoundsModel", "triesOf", "(II)I"⟩, 22) := ⟨⟨by decide +kernel, by decide +kernel⟩, List.mem_of_getElem? (i := 972) (by decide +kernel), List.mem_of_getElem? (i := 1370) (by decide +kernel), List.mem_of_getElem? (i := 1371) (by decide +kernel)⟩
theorem lw_p65 : lw_okq (⟨"FoxRoundsModel", "ran", "(I)V"⟩, 22) := ⟨⟨by decide +kernel, by decide +kernel⟩, List.mem_of_getElem? (i := 972) (by decide +kernel), List.mem_of_getElem? (i := 1374) (by decide +kernel), List.mem_of_getElem? (i := 1375) (by decide +kernel)⟩
theorem lw_p66 : lw_okq (⟨"FoxRoundsModel", "fears", "(II)I"⟩, 22) := ⟨⟨by decide +kernel, by decide +kernel⟩, List.mem_of_getElem? (i := 972) (by decide +kernel), List.mem_of_getElem? (i := 1381) (by decide +kernel), List.mem_of_getElem? (i := 1382) (by decide +kernel)⟩
theorem lw_p67 : lw_okq (⟨"FoxRoundsModel", "shuts", "(II)I"⟩, 22) := ⟨⟨by decide +kernel, by decide +kernel⟩, List.mem_of_getElem? (i := 972) (by decide +kernel), List.mem_of_getElem? (i := 1385) (by decide +kernel), List.mem_of_getElem? (i := 1386) (by decide +kernel)⟩
theorem lw_p68 : lw_okq (⟨"FoxRoundsModel", "tells", "(II)I"⟩, 22) := ⟨⟨by decide +kernel, by decide +kernel⟩, List.mem_of_getElem? (i := 972) (by decide +kernel), List.mem_of_getElem? (i := 1389) (by decide +kernel), List.mem_of_getElem? (i := 1390) (by decide +kernel)⟩
def lw_privs_5 : List (MethodName × Nat) := [(⟨"FoxRoundsModel", "triesOf", "(II)I"⟩, 22), (⟨"FoxRoundsModel", "ran", "(I)V"⟩, 22), (⟨"FoxRoundsModel", "fears", "(II)I"⟩, 22), (⟨"FoxRoundsModel", "shuts", "(II)I"⟩, 22), (⟨"FoxRoundsModel", "tells", "(II)I"⟩, 22)]
theorem lw_r5 : ∀ q ∈ lw_privs_5, lw_okq q := List.forall_mem_cons.mpr ⟨lw_p64, List.forall_mem_cons.mpr ⟨lw_p65, List.forall_mem_cons.mpr ⟨lw_p66, List.forall_mem_cons.mpr ⟨lw_p67, List.forall_mem_cons.mpr ⟨lw_p68, fun _ h => absurd h List.not_mem_nil⟩⟩⟩⟩⟩
def lw_privs : List (MethodName × Nat) := lw_privs_1 ++ (lw_privs_2 ++ (lw_privs_3 ++ (lw_privs_4 ++ (lw_privs_5))))
def lw_tbl : List Cond := k2_sels lw_privs ++ tables_1
theorem lw_privs_ok : ∀ q ∈ lw_privs, lw_okq q := by
  show ∀ q ∈ lw_privs_1 ++ (lw_privs_2 ++ (lw_privs_3 ++ (lw_privs_4 ++ (lw_privs_5)))), lw_okq q
  exact List.forall_mem_append.mpr ⟨lw_r1, List.forall_mem_append.mpr ⟨lw_r2, List.forall_mem_append.mpr ⟨lw_r3, List.forall_mem_append.mpr ⟨lw_r4, lw_r5⟩⟩⟩⟩

def RX0 : String := "FoxRounds$Ahead"
def TX0 : u_T := fun k => match k with
  | 0 => ("FoxRounds$Ahead", "now", "LFoxRounds$House;", true)
  | 1 => ("FoxRounds$Ahead", "laws", "LFoxRounds$Laws;", true)
  | 2 => ("FoxRounds$Ahead", "then", "LFoxRounds$House;", true)
  | 3 => ("FoxRounds$Ahead", "bestHens", "I", false)
  | 4 => ("FoxRounds$Ahead", "bestSet", "I", false)
  | 5 => ("FoxRounds$Ahead", "bestRow", "[I", true)
  | 6 => ("FoxRounds$Ahead", "row", "[I", true)
  | _ => ("FoxRounds$Ahead", "idle", "[I", true)
def tyX0 : Nat → FieldType := fun k => match k with
  | 0 => .object "FoxRounds$House"
  | 1 => .object "FoxRounds$Laws"
  | 2 => .object "FoxRounds$House"
  | 3 => .int
  | 4 => .int
  | 5 => .array .int
  | 6 => .array .int
  | _ => .array .int
abbrev wsX00 : List Cond := u_ws RX0 TX0 8
theorem nmX0 : ∀ a, a < 8 → ∀ b, b < 8 → a ≠ b → (TX0 a).2.1 ≠ (TX0 b).2.1 := by decide +kernel
theorem tyX0_ok : ∀ k, k < 8 → parseFieldDescriptor (TX0 k).2.2.1 = some (tyX0 k) := by decide +kernel
abbrev cX0_init : ByteArray := prog_2_method_1_code
def yX0_init : MethodName := ⟨RX0, "<init>", "(LFoxRounds$House;LFoxRounds$Laws;)V"⟩
abbrev cX0_goOn : ByteArray := prog_2_method_2_code
def yX0_goOn : MethodName := ⟨RX0, "goOn", "(I)LFoxRounds$House;"⟩
abbrev cX0_firstLoss : ByteArray := prog_2_method_3_code
def yX0_firstLoss : MethodName := ⟨RX0, "firstLoss", "(I)I"⟩
abbrev cX0_firstUnlike : ByteArray := prog_2_method_4_code
def yX0_firstUnlike : MethodName := ⟨RX0, "firstUnlike", "([II)I"⟩
abbrev cX0_chooseMends : ByteArray := prog_2_method_5_code
def yX0_chooseMends : MethodName := ⟨RX0, "chooseMends", "(II)V"⟩
abbrev cX0_costOf : ByteArray := prog_2_method_6_code
def yX0_costOf : MethodName := ⟨RX0, "costOf", "(I)I"⟩
abbrev cX0_hensMended : ByteArray := prog_2_method_7_code
def yX0_hensMended : MethodName := ⟨RX0, "hensMended", "(II)I"⟩
abbrev cX0_chooseHangs : ByteArray := prog_2_method_8_code
def yX0_chooseHangs : MethodName := ⟨RX0, "chooseHangs", "(I)V"⟩
abbrev cX0_arrange : ByteArray := prog_2_method_9_code
def yX0_arrange : MethodName := ⟨RX0, "arrange", "(II)V"⟩
abbrev cX0_listIdle : ByteArray := prog_2_method_10_code
def yX0_listIdle : MethodName := ⟨RX0, "listIdle", "()V"⟩
abbrev cX0_hensHung : ByteArray := prog_2_method_11_code
def yX0_hensHung : MethodName := ⟨RX0, "hensHung", "(II)I"⟩
abbrev cX0_offBy : ByteArray := prog_2_method_12_code
def yX0_offBy : MethodName := ⟨RX0, "offBy", "(LFoxRounds$Sheet;I)I"⟩
abbrev cX0_hungerBy : ByteArray := prog_2_method_13_code
def yX0_hungerBy : MethodName := ⟨RX0, "hungerBy", "(LFoxRounds$Sheet;)I"⟩
def RX1 : String := "FoxRounds$House"
def TX1 : u_T := fun k => match k with
  | 0 => ("FoxRounds$House", "number", "[I", true)
  | 1 => ("FoxRounds$House", "tonight", "I", false)
  | 2 => ("FoxRounds$House", "killed", "I", false)
  | 3 => ("FoxRounds$House", "way", "[[I", true)
  | 4 => ("FoxRounds$House", "ways", "I", false)
  | 5 => ("FoxRounds$House", "thing", "[[I", true)
  | 6 => ("FoxRounds$House", "things", "I", false)
  | 7 => ("FoxRounds$House", "entry", "I", false)
  | _ => ("FoxRounds$House", "order", "[I", true)
def tyX1 : Nat → FieldType := fun k => match k with
  | 0 => .array .int
  | 1 => .int
  | 2 => .int
  | 3 => .array (.array .int)
  | 4 => .int
  | 5 => .array (.array .int)
  | 6 => .int
  | 7 => .int
  | _ => .array .int
abbrev wsX10 : List Cond := u_ws RX1 TX1 9
theorem nmX1 : ∀ a, a < 9 → ∀ b, b < 9 → a ≠ b → (TX1 a).2.1 ≠ (TX1 b).2.1 := by decide +kernel
theorem tyX1_ok : ∀ k, k < 9 → parseFieldDescriptor (TX1 k).2.2.1 = some (tyX1 k) := by decide +kernel
abbrev cX1_init : ByteArray := prog_3_method_1_code
def yX1_init : MethodName := ⟨RX1, "<init>", "()V"⟩
abbrev cX1_copyFrom : ByteArray := prog_3_method_2_code
def yX1_copyFrom : MethodName := ⟨RX1, "copyFrom", "(LFoxRounds$House;)V"⟩
abbrev cX1_hasWay : ByteArray := prog_3_method_3_code
def yX1_hasWay : MethodName := ⟨RX1, "hasWay", "(I)Z"⟩
abbrev cX1_hasThing : ByteArray := prog_3_method_4_code
def yX1_hasThing : MethodName := ⟨RX1, "hasThing", "(I)Z"⟩
abbrev cX1_addWay : ByteArray := prog_3_method_5_code
def yX1_addWay : MethodName := ⟨RX1, "addWay", "(III)I"⟩
abbrev cX1_addThing : ByteArray := prog_3_method_6_code
def yX1_addThing : MethodName := ⟨RX1, "addThing", "(II)I"⟩
abbrev cX1_wayPart : ByteArray := prog_3_method_7_code
def yX1_wayPart : MethodName := ⟨RX1, "wayPart", "(II)I"⟩
abbrev cX1_mendWay : ByteArray := prog_3_method_8_code
def yX1_mendWay : MethodName := ⟨RX1, "mendWay", "(I)V"⟩
abbrev cX1_idleThings : ByteArray := prog_3_method_9_code
def yX1_idleThings : MethodName := ⟨RX1, "idleThings", "()I"⟩
abbrev cX1_fear : ByteArray := prog_3_method_10_code
def yX1_fear : MethodName := ⟨RX1, "fear", "()I"⟩
abbrev cX1_boldness : ByteArray := prog_3_method_11_code
def yX1_boldness : MethodName := ⟨RX1, "boldness", "()I"⟩
abbrev cX1_ease : ByteArray := prog_3_method_12_code
def yX1_ease : MethodName := ⟨RX1, "ease", "([I)I"⟩
abbrev cX1_doorEase : ByteArray := prog_3_method_13_code
def yX1_doorEase : MethodName := ⟨RX1, "doorEase", "([I)I"⟩
abbrev cX1_dugEase : ByteArray := prog_3_method_14_code
def yX1_dugEase : MethodName := ⟨RX1, "dugEase", "([I)I"⟩
abbrev cX1_looseEase : ByteArray := prog_3_method_15_code
def yX1_looseEase : MethodName := ⟨RX1, "looseEase", "([I)I"⟩
abbrev cX1_month : ByteArray := prog_3_method_16_code
def yX1_month : MethodName := ⟨RX1, "month", "()I"⟩
abbrev cX1_passNight : ByteArray := prog_3_method_17_code
def yX1_passNight : MethodName := ⟨RX1, "passNight", "(LFoxRounds$Laws;)V"⟩
abbrev cX1_goRound : ByteArray := prog_3_method_18_code
def yX1_goRound : MethodName := ⟨RX1, "goRound", "(LFoxRounds$Laws;)I"⟩
abbrev cX1_orderByMemory : ByteArray := prog_3_method_19_code
def yX1_orderByMemory : MethodName := ⟨RX1, "orderByMemory", "()V"⟩
abbrev cX1_turnAway : ByteArray := prog_3_method_20_code
def yX1_turnAway : MethodName := ⟨RX1, "turnAway", "([IZ)V"⟩
abbrev cX1_comeIn : ByteArray := prog_3_method_21_code
def yX1_comeIn : MethodName := ⟨RX1, "comeIn", "([ILFoxRounds$Laws;)V"⟩
def RX2 : String := "FoxRounds$Laws"
def TX2 : u_T := fun k => match k with
  | 0 => ("FoxRounds$Laws", "enters", "LFoxRounds$Text;", true)
  | 1 => ("FoxRounds$Laws", "kills", "LFoxRounds$Text;", true)
  | 2 => ("FoxRounds$Laws", "stays", "LFoxRounds$Text;", true)
  | _ => ("FoxRounds$Laws", "names", "[I", true)
def tyX2 : Nat → FieldType := fun k => match k with
  | 0 => .object "FoxRounds$Text"
  | 1 => .object "FoxRounds$Text"
  | 2 => .object "FoxRounds$Text"
  | _ => .array .int
abbrev wsX20 : List Cond := u_ws RX2 TX2 4
theorem nmX2 : ∀ a, a < 4 → ∀ b, b < 4 → a ≠ b → (TX2 a).2.1 ≠ (TX2 b).2.1 := by decide +kernel
theorem tyX2_ok : ∀ k, k < 4 → parseFieldDescriptor (TX2 k).2.2.1 = some (tyX2 k) := by decide +kernel
abbrev cX2_init : ByteArray := prog_4_method_1_code
def yX2_init : MethodName := ⟨RX2, "<init>", "()V"⟩
abbrev cX2_textOf : ByteArray := prog_4_method_2_code
def yX2_textOf : MethodName := ⟨RX2, "textOf", "(I)LFoxRounds$Text;"⟩
abbrev cX2_copyFrom : ByteArray := prog_4_method_3_code
def yX2_copyFrom : MethodName := ⟨RX2, "copyFrom", "(LFoxRounds$Laws;)V"⟩
abbrev cX2_enters : ByteArray := prog_4_method_4_code
def yX2_enters : MethodName := ⟨RX2, "enters", "(IIIII)I"⟩
abbrev cX2_kills : ByteArray := prog_4_method_5_code
def yX2_kills : MethodName := ⟨RX2, "kills", "(III)I"⟩
abbrev cX2_stays : ByteArray := prog_4_method_6_code
def yX2_stays : MethodName := ⟨RX2, "stays", "(II)I"⟩
def RX3 : String := "FoxRounds$Reader"
def TX3 : u_T := fun k => match k with
  | 0 => ("FoxRounds$Reader", "read", "LFoxRounds$Text;", true)
  | 1 => ("FoxRounds$Reader", "tape", "[B", false)
  | 2 => ("FoxRounds$Reader", "taped", "I", false)
  | 3 => ("FoxRounds$Reader", "names", "Ljava/lang/String;", false)
  | 4 => ("FoxRounds$Reader", "at", "I", false)
  | 5 => ("FoxRounds$Reader", "signs", "[I", true)
  | 6 => ("FoxRounds$Reader", "waiting", "I", false)
  | 7 => ("FoxRounds$Reader", "open", "I", false)
  | 8 => ("FoxRounds$Reader", "brackets", "I", false)
  | _ => ("FoxRounds$Reader", "operandDue", "Z", false)
def tyX3 : Nat → FieldType := fun k => match k with
  | 0 => .object "FoxRounds$Text"
  | 1 => .array .byte
  | 2 => .int
  | 3 => .object "java/lang/String"
  | 4 => .int
  | 5 => .array .int
  | 6 => .int
  | 7 => .int
  | 8 => .int
  | _ => .boolean
abbrev wsX30 : List Cond := u_ws RX3 TX3 10
theorem nmX3 : ∀ a, a < 10 → ∀ b, b < 10 → a ≠ b → (TX3 a).2.1 ≠ (TX3 b).2.1 := by decide +kernel
theorem tyX3_ok : ∀ k, k < 10 → parseFieldDescriptor (TX3 k).2.2.1 = some (tyX3 k) := by decide +kernel
abbrev cX3_init : ByteArray := prog_5_method_1_code
def yX3_init : MethodName := ⟨RX3, "<init>", "()V"⟩
abbrev cX3_faultOf : ByteArray := prog_5_method_2_code
def yX3_faultOf : MethodName := ⟨RX3, "faultOf", "([BILjava/lang/String;)I"⟩
abbrev cX3_begin : ByteArray := prog_5_method_3_code
def yX3_begin : MethodName := ⟨RX3, "begin", "()V"⟩
abbrev cX3_takeOperand : ByteArray := prog_5_method_4_code
def yX3_takeOperand : MethodName := ⟨RX3, "takeOperand", "(I)Z"⟩
abbrev cX3_takeOpening : ByteArray := prog_5_method_5_code
def yX3_takeOpening : MethodName := ⟨RX3, "takeOpening", "(I)Z"⟩
abbrev cX3_takeNumber : ByteArray := prog_5_method_6_code
def yX3_takeNumber : MethodName := ⟨RX3, "takeNumber", "()V"⟩
abbrev cX3_endOperand : ByteArray := prog_5_method_7_code
def yX3_endOperand : MethodName := ⟨RX3, "endOperand", "()V"⟩
abbrev cX3_takeFollower : ByteArray := prog_5_method_8_code
def yX3_takeFollower : MethodName := ⟨RX3, "takeFollower", "(I)Z"⟩
abbrev cX3_takeClosing : ByteArray := prog_5_method_9_code
def yX3_takeClosing : MethodName := ⟨RX3, "takeClosing", "()Z"⟩
abbrev cX3_pushSign : ByteArray := prog_5_method_10_code
def yX3_pushSign : MethodName := ⟨RX3, "pushSign", "(I)V"⟩
abbrev cX3_popDownTo : ByteArray := prog_5_method_11_code
def yX3_popDownTo : MethodName := ⟨RX3, "popDownTo", "(I)V"⟩
abbrev cX3_isDigit : ByteArray := prog_5_method_12_code
def yX3_isDigit : MethodName := ⟨RX3, "isDigit", "(I)Z"⟩
abbrev cX3_levelOf : ByteArray := prog_5_method_13_code
def yX3_levelOf : MethodName := ⟨RX3, "levelOf", "(I)I"⟩
def RX4 : String := "FoxRounds$Sheet"
def TX4 : u_T := fun k => match k with
  | 0 => ("FoxRounds$Sheet", "bits", "I", false)
  | 1 => ("FoxRounds$Sheet", "length", "I", false)
  | _ => ("FoxRounds$Sheet", "row", "[I", true)
def tyX4 : Nat → FieldType := fun k => match k with
  | 0 => .int
  | 1 => .int
  | _ => .array .int
abbrev wsX40 : List Cond := u_ws RX4 TX4 3
theorem nmX4 : ∀ a, a < 3 → ∀ b, b < 3 → a ≠ b → (TX4 a).2.1 ≠ (TX4 b).2.1 := by decide +kernel
theorem tyX4_ok : ∀ k, k < 3 → parseFieldDescriptor (TX4 k).2.2.1 = some (tyX4 k) := by decide +kernel
abbrev cX4_init : ByteArray := prog_6_method_1_code
def yX4_init : MethodName := ⟨RX4, "<init>", "()V"⟩
abbrev cX4_isMissing : ByteArray := prog_6_method_2_code
def yX4_isMissing : MethodName := ⟨RX4, "isMissing", "()Z"⟩
abbrev cX4_renew : ByteArray := prog_6_method_3_code
def yX4_renew : MethodName := ⟨RX4, "renew", "(II)V"⟩
abbrev cX4_change : ByteArray := prog_6_method_4_code
def yX4_change : MethodName := ⟨RX4, "change", "(II)V"⟩
abbrev cX4_holds : ByteArray := prog_6_method_5_code
def yX4_holds : MethodName := ⟨RX4, "holds", "(II)Z"⟩
def RX5 : String := "FoxRounds$Text"
def TX5 : u_T := fun k => match k with
  | 0 => ("FoxRounds$Text", "code", "[I", true)
  | 1 => ("FoxRounds$Text", "length", "I", false)
  | _ => ("FoxRounds$Text", "stack", "[I", true)
def tyX5 : Nat → FieldType := fun k => match k with
  | 0 => .array .int
  | 1 => .int
  | _ => .array .int
abbrev wsX50 : List Cond := u_ws RX5 TX5 3
theorem nmX5 : ∀ a, a < 3 → ∀ b, b < 3 → a ≠ b → (TX5 a).2.1 ≠ (TX5 b).2.1 := by decide +kernel
theorem tyX5_ok : ∀ k, k < 3 → parseFieldDescriptor (TX5 k).2.2.1 = some (tyX5 k) := by decide +kernel
abbrev cX5_init : ByteArray := prog_7_method_1_code
def yX5_init : MethodName := ⟨RX5, "<init>", "([I)V"⟩
abbrev cX5_clear : ByteArray := prog_7_method_2_code
def yX5_clear : MethodName := ⟨RX5, "clear", "()V"⟩
abbrev cX5_add : ByteArray := prog_7_method_3_code
def yX5_add : MethodName := ⟨RX5, "add", "(I)V"⟩
abbrev cX5_copyFrom : ByteArray := prog_7_method_4_code
def yX5_copyFrom : MethodName := ⟨RX5, "copyFrom", "(LFoxRounds$Text;)V"⟩
abbrev cX5_value : ByteArray := prog_7_method_5_code
def yX5_value : MethodName := ⟨RX5, "value", "([I)I"⟩
abbrev cX5_join : ByteArray := prog_7_method_6_code
def yX5_join : MethodName := ⟨RX5, "join", "(III)I"⟩
def RX6 : String := "FoxRounds$Village"
def TX6 : u_T := fun k => match k with
  | 0 => ("FoxRounds$Village", "price", "[I", true)
  | 1 => ("FoxRounds$Village", "loss", "[I", true)
  | 2 => ("FoxRounds$Village", "shut", "[I", true)
  | 3 => ("FoxRounds$Village", "rounds", "I", false)
  | _ => ("FoxRounds$Village", "then", "[I", true)
def tyX6 : Nat → FieldType := fun k => match k with
  | 0 => .array .int
  | 1 => .array .int
  | 2 => .array .int
  | 3 => .int
  | _ => .array .int
abbrev wsX60 : List Cond := u_ws RX6 TX6 5
theorem nmX6 : ∀ a, a < 5 → ∀ b, b < 5 → a ≠ b → (TX6 a).2.1 ≠ (TX6 b).2.1 := by decide +kernel
theorem tyX6_ok : ∀ k, k < 5 → parseFieldDescriptor (TX6 k).2.2.1 = some (tyX6 k) := by decide +kernel
abbrev cX6_init : ByteArray := prog_8_method_1_code
def yX6_init : MethodName := ⟨RX6, "<init>", "()V"⟩
abbrev cX6_copyFrom : ByteArray := prog_8_method_2_code
def yX6_copyFrom : MethodName := ⟨RX6, "copyFrom", "(LFoxRounds$Village;)V"⟩
abbrev cX6_settle : ByteArray := prog_8_method_3_code
def yX6_settle : MethodName := ⟨RX6, "settle", "()V"⟩
abbrev cX6_changesInARound : ByteArray := prog_8_method_4_code
def yX6_changesInARound : MethodName := ⟨RX6, "changesInARound", "()Z"⟩
abbrev cX6_firstOpen : ByteArray := prog_8_method_5_code
def yX6_firstOpen : MethodName := ⟨RX6, "firstOpen", "()I"⟩
abbrev cX6_shutThen : ByteArray := prog_8_method_6_code
def yX6_shutThen : MethodName := ⟨RX6, "shutThen", "()I"⟩
def RX7 : String := "FoxRounds$Voices"
def TX7 : u_T := fun k => match k with
  | 0 => ("FoxRounds$Voices", "trace", "[I", true)
  | 1 => ("FoxRounds$Voices", "traced", "I", false)
  | 2 => ("FoxRounds$Voices", "kind", "I", false)
  | 3 => ("FoxRounds$Voices", "n", "I", false)
  | _ => ("FoxRounds$Voices", "m", "I", false)
def tyX7 : Nat → FieldType := fun k => match k with
  | 0 => .array .int
  | 1 => .int
  | 2 => .int
  | 3 => .int
  | _ => .int
abbrev wsX70 : List Cond := u_ws RX7 TX7 5
theorem nmX7 : ∀ a, a < 5 → ∀ b, b < 5 → a ≠ b → (TX7 a).2.1 ≠ (TX7 b).2.1 := by decide +kernel
theorem tyX7_ok : ∀ k, k < 5 → parseFieldDescriptor (TX7 k).2.2.1 = some (tyX7 k) := by decide +kernel
abbrev cX7_init : ByteArray := prog_9_method_1_code
def yX7_init : MethodName := ⟨RX7, "<init>", "()V"⟩
abbrev cX7_speak : ByteArray := prog_9_method_2_code
def yX7_speak : MethodName := ⟨RX7, "speak", "(IIIII)I"⟩
abbrev cX7_begin : ByteArray := prog_9_method_3_code
def yX7_begin : MethodName := ⟨RX7, "begin", "(I)V"⟩
abbrev cX7_tries : ByteArray := prog_9_method_4_code
def yX7_tries : MethodName := ⟨RX7, "tries", "(III)I"⟩
abbrev cX7_fears : ByteArray := prog_9_method_5_code
def yX7_fears : MethodName := ⟨RX7, "fears", "(III)I"⟩
abbrev cX7_shuts : ByteArray := prog_9_method_6_code
def yX7_shuts : MethodName := ⟨RX7, "shuts", "(III)I"⟩
abbrev cX7_tells : ByteArray := prog_9_method_7_code
def yX7_tells : MethodName := ⟨RX7, "tells", "(III)I"⟩
def RX8 : String := "FoxRounds$World"
def TX8 : u_T := fun k => match k with
  | 0 => ("FoxRounds$World", "house", "LFoxRounds$House;", true)
  | 1 => ("FoxRounds$World", "laws", "LFoxRounds$Laws;", true)
  | 2 => ("FoxRounds$World", "village", "LFoxRounds$Village;", true)
  | 3 => ("FoxRounds$World", "tape", "[B", true)
  | 4 => ("FoxRounds$World", "taped", "I", false)
  | 5 => ("FoxRounds$World", "waits", "[I", true)
  | 6 => ("FoxRounds$World", "waiting", "I", false)
  | 7 => ("FoxRounds$World", "dusk", "[I", true)
  | _ => ("FoxRounds$World", "z", "I", false)
def tyX8 : Nat → FieldType := fun k => match k with
  | 0 => .object "FoxRounds$House"
  | 1 => .object "FoxRounds$Laws"
  | 2 => .object "FoxRounds$Village"
  | 3 => .array .byte
  | 4 => .int
  | 5 => .array .int
  | 6 => .int
  | 7 => .array .int
  | _ => .int
abbrev wsX80 : List Cond := u_ws RX8 TX8 9
theorem nmX8 : ∀ a, a < 9 → ∀ b, b < 9 → a ≠ b → (TX8 a).2.1 ≠ (TX8 b).2.1 := by decide +kernel
theorem tyX8_ok : ∀ k, k < 9 → parseFieldDescriptor (TX8 k).2.2.1 = some (tyX8 k) := by decide +kernel
abbrev cX8_init : ByteArray := prog_10_method_1_code
def yX8_init : MethodName := ⟨RX8, "<init>", "()V"⟩
abbrev cX8_copyFrom : ByteArray := prog_10_method_2_code
def yX8_copyFrom : MethodName := ⟨RX8, "copyFrom", "(LFoxRounds$World;)V"⟩
abbrev cX8_draw : ByteArray := prog_10_method_3_code
def yX8_draw : MethodName := ⟨RX8, "draw", "()I"⟩
abbrev cX8_harmAt : ByteArray := prog_10_method_4_code
def yX8_harmAt : MethodName := ⟨RX8, "harmAt", "(I)I"⟩
def RX9 : String := "FoxRounds"
def TX9 : u_T := fun k => match k with
  | 0 => ("FoxRounds", "world", "LFoxRounds$World;", true)
  | 1 => ("FoxRounds", "kept", "LFoxRounds$World;", true)
  | 2 => ("FoxRounds", "images", "I", false)
  | 3 => ("FoxRounds", "ahead", "LFoxRounds$Ahead;", true)
  | 4 => ("FoxRounds", "reader", "LFoxRounds$Reader;", true)
  | 5 => ("FoxRounds", "voices", "LFoxRounds$Voices;", true)
  | 6 => ("FoxRounds", "sheets", "[LFoxRounds$Sheet;", true)
  | _ => ("FoxRounds", "told", "[I", true)
def tyX9 : Nat → FieldType := fun k => match k with
  | 0 => .object "FoxRounds$World"
  | 1 => .object "FoxRounds$World"
  | 2 => .int
  | 3 => .object "FoxRounds$Ahead"
  | 4 => .object "FoxRounds$Reader"
  | 5 => .object "FoxRounds$Voices"
  | 6 => .array (.object "FoxRounds$Sheet")
  | _ => .array .int
abbrev wsX90 : List Cond := u_ws RX9 TX9 8
theorem nmX9 : ∀ a, a < 8 → ∀ b, b < 8 → a ≠ b → (TX9 a).2.1 ≠ (TX9 b).2.1 := by decide +kernel
theorem tyX9_ok : ∀ k, k < 8 → parseFieldDescriptor (TX9 k).2.2.1 = some (tyX9 k) := by decide +kernel
abbrev cX9_init : ByteArray := prog_1_method_1_code
def yX9_init : MethodName := ⟨RX9, "<init>", "()V"⟩
abbrev cX9_set : ByteArray := prog_1_method_2_code
def yX9_set : MethodName := ⟨RX9, "set", "(II)I"⟩
abbrev cX9_way : ByteArray := prog_1_method_3_code
def yX9_way : MethodName := ⟨RX9, "way", "(III)I"⟩
abbrev cX9_ofWay : ByteArray := prog_1_method_4_code
def yX9_ofWay : MethodName := ⟨RX9, "ofWay", "(II)I"⟩
abbrev cX9_wear : ByteArray := prog_1_method_5_code
def yX9_wear : MethodName := ⟨RX9, "wear", "(III)I"⟩
abbrev cX9_as : ByteArray := prog_1_method_6_code
def yX9_as : MethodName := ⟨RX9, "as", "(II)I"⟩
abbrev cX9_ways : ByteArray := prog_1_method_7_code
def yX9_ways : MethodName := ⟨RX9, "ways", "(I)I"⟩
abbrev cX9_mend : ByteArray := prog_1_method_8_code
def yX9_mend : MethodName := ⟨RX9, "mend", "(I)I"⟩
abbrev cX9_thing : ByteArray := prog_1_method_9_code
def yX9_thing : MethodName := ⟨RX9, "thing", "(II)I"⟩
abbrev cX9_ofThing : ByteArray := prog_1_method_10_code
def yX9_ofThing : MethodName := ⟨RX9, "ofThing", "(II)I"⟩
abbrev cX9_hang : ByteArray := prog_1_method_11_code
def yX9_hang : MethodName := ⟨RX9, "hang", "(II)I"⟩
abbrev cX9_bitten : ByteArray := prog_1_method_12_code
def yX9_bitten : MethodName := ⟨RX9, "bitten", "()I"⟩
abbrev cX9_bold : ByteArray := prog_1_method_13_code
def yX9_bold : MethodName := ⟨RX9, "bold", "()I"⟩
abbrev cX9_feed : ByteArray := prog_1_method_14_code
def yX9_feed : MethodName := ⟨RX9, "feed", "(JI)I"⟩
abbrev cX9_text : ByteArray := prog_1_method_15_code
def yX9_text : MethodName := ⟨RX9, "text", "(I)I"⟩
abbrev cX9_law : ByteArray := prog_1_method_16_code
def yX9_law : MethodName := ⟨RX9, "law", "(IIII)I"⟩
abbrev cX9_nights : ByteArray := prog_1_method_17_code
def yX9_nights : MethodName := ⟨RX9, "nights", "(I)I"⟩
abbrev cX9_careless : ByteArray := prog_1_method_18_code
def yX9_careless : MethodName := ⟨RX9, "careless", "(II)I"⟩
abbrev cX9_then : ByteArray := prog_1_method_19_code
def yX9_then : MethodName := ⟨RX9, "then", "(II)I"⟩
abbrev cX9_thenWay : ByteArray := prog_1_method_20_code
def yX9_thenWay : MethodName := ⟨RX9, "thenWay", "(III)I"⟩
abbrev cX9_loss : ByteArray := prog_1_method_21_code
def yX9_loss : MethodName := ⟨RX9, "loss", "(I)I"⟩
abbrev cX9_by : ByteArray := prog_1_method_22_code
def yX9_by : MethodName := ⟨RX9, "by", "()I"⟩
abbrev cX9_mends : ByteArray := prog_1_method_23_code
def yX9_mends : MethodName := ⟨RX9, "mends", "(III)I"⟩
abbrev cX9_hangs : ByteArray := prog_1_method_24_code
def yX9_hangs : MethodName := ⟨RX9, "hangs", "(II)I"⟩
abbrev cX9_dusk : ByteArray := prog_1_method_25_code
def yX9_dusk : MethodName := ⟨RX9, "dusk", "(II)I"⟩
abbrev cX9_harm : ByteArray := prog_1_method_26_code
def yX9_harm : MethodName := ⟨RX9, "harm", "(I)I"⟩
abbrev cX9_clock : ByteArray := prog_1_method_27_code
def yX9_clock : MethodName := ⟨RX9, "clock", "()I"⟩
abbrev cX9_odds : ByteArray := prog_1_method_28_code
def yX9_odds : MethodName := ⟨RX9, "odds", "(III)J"⟩
abbrev cX9_yard : ByteArray := prog_1_method_29_code
def yX9_yard : MethodName := ⟨RX9, "yard", "(IIII)I"⟩
abbrev cX9_village : ByteArray := prog_1_method_30_code
def yX9_village : MethodName := ⟨RX9, "village", "(I)I"⟩
abbrev cX9_off : ByteArray := prog_1_method_31_code
def yX9_off : MethodName := ⟨RX9, "off", "(I)I"⟩
abbrev cX9_hungry : ByteArray := prog_1_method_32_code
def yX9_hungry : MethodName := ⟨RX9, "hungry", "(I)I"⟩
abbrev cX9_seed : ByteArray := prog_1_method_33_code
def yX9_seed : MethodName := ⟨RX9, "seed", "(I)I"⟩
abbrev cX9_voice : ByteArray := prog_1_method_34_code
def yX9_voice : MethodName := ⟨RX9, "voice", "(III)I"⟩
abbrev cX9_trace : ByteArray := prog_1_method_35_code
def yX9_trace : MethodName := ⟨RX9, "trace", "(I)I"⟩
abbrev cX9_sheet : ByteArray := prog_1_method_36_code
def yX9_sheet : MethodName := ⟨RX9, "sheet", "(III)I"⟩
abbrev cX9_put : ByteArray := prog_1_method_37_code
def yX9_put : MethodName := ⟨RX9, "put", "(III)I"⟩
abbrev cX9_move : ByteArray := prog_1_method_38_code
def yX9_move : MethodName := ⟨RX9, "move", "(IIIII)I"⟩
abbrev cX9_image : ByteArray := prog_1_method_39_code
def yX9_image : MethodName := ⟨RX9, "image", "()I"⟩
abbrev cX9_restore : ByteArray := prog_1_method_40_code
def yX9_restore : MethodName := ⟨RX9, "restore", "()I"⟩
abbrev cX9_tell : ByteArray := prog_1_method_41_code
def yX9_tell : MethodName := ⟨RX9, "tell", "(I)I"⟩
abbrev cX9_check : ByteArray := prog_1_method_42_code
def yX9_check : MethodName := ⟨RX9, "check", "()I"⟩
abbrev cX9_count : ByteArray := prog_1_method_43_code
def yX9_count : MethodName := ⟨RX9, "count", "(I)I"⟩
abbrev cX9_told : ByteArray := prog_1_method_44_code
def yX9_told : MethodName := ⟨RX9, "told", "(I)I"⟩
abbrev cX9_error : ByteArray := prog_1_method_45_code
def yX9_error : MethodName := ⟨RX9, "error", "(I)I"⟩
abbrev cX9_nightsError : ByteArray := prog_1_method_46_code
def yX9_nightsError : MethodName := ⟨RX9, "nightsError", "(I)I"⟩
abbrev cX9_sheetError : ByteArray := prog_1_method_47_code
def yX9_sheetError : MethodName := ⟨RX9, "sheetError", "(I)I"⟩
abbrev cX9_isSheet : ByteArray := prog_1_method_48_code
def yX9_isSheet : MethodName := ⟨RX9, "isSheet", "(I)Z"⟩
abbrev cX9_isWay : ByteArray := prog_1_method_49_code
def yX9_isWay : MethodName := ⟨RX9, "isWay", "(III)Z"⟩
abbrev cX9_isUnder : ByteArray := prog_1_method_50_code
def yX9_isUnder : MethodName := ⟨RX9, "isUnder", "(II)Z"⟩
abbrev cX9_within : ByteArray := prog_1_method_51_code
def yX9_within : MethodName := ⟨RX9, "within", "(III)Z"⟩
abbrev cX9_held : ByteArray := prog_1_method_52_code
def yX9_held : MethodName := ⟨RX9, "held", "(III)I"⟩
abbrev cX9_commonDivisor : ByteArray := prog_1_method_53_code
def yX9_commonDivisor : MethodName := ⟨RX9, "commonDivisor", "(II)I"⟩
abbrev cX9_power : ByteArray := prog_1_method_54_code
def yX9_power : MethodName := ⟨RX9, "power", "(II)J"⟩
abbrev cX9_namesOf : ByteArray := prog_1_method_55_code
def yX9_namesOf : MethodName := ⟨RX9, "namesOf", "(I)Ljava/lang/String;"⟩
def RX10 : String := "FoxRoundsModel"
def TX10 : u_T := fun k => match k with
  | 0 => ("FoxRoundsModel", "d", "[I", true)
  | 1 => ("FoxRoundsModel", "e", "[I", true)
  | 2 => ("FoxRoundsModel", "kept", "[I", true)
  | 3 => ("FoxRoundsModel", "images", "I", false)
  | 4 => ("FoxRoundsModel", "found", "[I", true)
  | 5 => ("FoxRoundsModel", "base", "I", false)
  | 6 => ("FoxRoundsModel", "at", "I", false)
  | 7 => ("FoxRoundsModel", "size", "I", false)
  | 8 => ("FoxRoundsModel", "fault", "I", false)
  | 9 => ("FoxRoundsModel", "opened", "I", false)
  | 10 => ("FoxRoundsModel", "isUse", "I", false)
  | 11 => ("FoxRoundsModel", "names", "[I", true)
  | 12 => ("FoxRoundsModel", "wasTried", "[Z", true)
  | 13 => ("FoxRoundsModel", "free", "[I", true)
  | 14 => ("FoxRoundsModel", "order", "[I", true)
  | 15 => ("FoxRoundsModel", "traced", "[I", true)
  | 16 => ("FoxRoundsModel", "traceMany", "I", false)
  | 17 => ("FoxRoundsModel", "who", "I", false)
  | 18 => ("FoxRoundsModel", "bitsOf", "[I", true)
  | 19 => ("FoxRoundsModel", "sizeOf", "[I", true)
  | 20 => ("FoxRoundsModel", "number", "[I", true)
  | _ => ("FoxRoundsModel", "lifted", "[I", true)
def tyX10 : Nat → FieldType := fun k => match k with
  | 0 => .array .int
  | 1 => .array .int
  | 2 => .array .int
  | 3 => .int
  | 4 => .array .int
  | 5 => .int
  | 6 => .int
  | 7 => .int
  | 8 => .int
  | 9 => .int
  | 10 => .int
  | 11 => .array .int
  | 12 => .array .boolean
  | 13 => .array .int
  | 14 => .array .int
  | 15 => .array .int
  | 16 => .int
  | 17 => .int
  | 18 => .array .int
  | 19 => .array .int
  | 20 => .array .int
  | _ => .array .int
abbrev wsX100 : List Cond := u_ws RX10 TX10 22
theorem nmX10 : ∀ a, a < 22 → ∀ b, b < 22 → a ≠ b → (TX10 a).2.1 ≠ (TX10 b).2.1 := by decide +kernel
theorem tyX10_ok : ∀ k, k < 22 → parseFieldDescriptor (TX10 k).2.2.1 = some (tyX10 k) := by decide +kernel
abbrev cX10_init : ByteArray := prog_12_method_1_code
def yX10_init : MethodName := ⟨RX10, "<init>", "()V"⟩
abbrev cX10_finds : ByteArray := prog_12_method_3_code
def yX10_finds : MethodName := ⟨RX10, "finds", "(I)I"⟩
abbrev cX10_in : ByteArray := prog_12_method_4_code
def yX10_in : MethodName := ⟨RX10, "in", "(JJJ)Z"⟩
abbrev cX10_held : ByteArray := prog_12_method_5_code
def yX10_held : MethodName := ⟨RX10, "held", "(III)I"⟩
abbrev cX10_copies : ByteArray := prog_12_method_6_code
def yX10_copies : MethodName := ⟨RX10, "copies", "([I[I)V"⟩
abbrev cX10_isWay : ByteArray := prog_12_method_7_code
def yX10_isWay : MethodName := ⟨RX10, "isWay", "(I)Z"⟩
abbrev cX10_isThing : ByteArray := prog_12_method_8_code
def yX10_isThing : MethodName := ⟨RX10, "isThing", "(I)Z"⟩
abbrev cX10_of : ByteArray := prog_12_method_9_code
def yX10_of : MethodName := ⟨RX10, "of", "([III)I"⟩
abbrev cX10_here : ByteArray := prog_12_method_10_code
def yX10_here : MethodName := ⟨RX10, "here", "()I"⟩
abbrev cX10_wrong : ByteArray := prog_12_method_11_code
def yX10_wrong : MethodName := ⟨RX10, "wrong", "()I"⟩
abbrev cX10_takes : ByteArray := prog_12_method_12_code
def yX10_takes : MethodName := ⟨RX10, "takes", "(I)Z"⟩
abbrev cX10_nameOf : ByteArray := prog_12_method_13_code
def yX10_nameOf : MethodName := ⟨RX10, "nameOf", "(I)I"⟩
abbrev cX10_either : ByteArray := prog_12_method_14_code
def yX10_either : MethodName := ⟨RX10, "either", "()I"⟩
abbrev cX10_both : ByteArray := prog_12_method_15_code
def yX10_both : MethodName := ⟨RX10, "both", "()I"⟩
abbrev cX10_compared : ByteArray := prog_12_method_16_code
def yX10_compared : MethodName := ⟨RX10, "compared", "()I"⟩
abbrev cX10_sum : ByteArray := prog_12_method_17_code
def yX10_sum : MethodName := ⟨RX10, "sum", "()I"⟩
abbrev cX10_product : ByteArray := prog_12_method_18_code
def yX10_product : MethodName := ⟨RX10, "product", "()I"⟩
abbrev cX10_unit : ByteArray := prog_12_method_19_code
def yX10_unit : MethodName := ⟨RX10, "unit", "()I"⟩
abbrev cX10_worked : ByteArray := prog_12_method_20_code
def yX10_worked : MethodName := ⟨RX10, "worked", "(III)I"⟩
abbrev cX10_feed : ByteArray := prog_12_method_21_code
def yX10_feed : MethodName := ⟨RX10, "feed", "(JI)I"⟩
abbrev cX10_text : ByteArray := prog_12_method_22_code
def yX10_text : MethodName := ⟨RX10, "text", "(I)I"⟩
abbrev cX10_byText : ByteArray := prog_12_method_23_code
def yX10_byText : MethodName := ⟨RX10, "byText", "(I)I"⟩
abbrev cX10_isNamed : ByteArray := prog_12_method_24_code
def yX10_isNamed : MethodName := ⟨RX10, "isNamed", "(III)V"⟩
abbrev cX10_killsOf : ByteArray := prog_12_method_25_code
def yX10_killsOf : MethodName := ⟨RX10, "killsOf", "(III)I"⟩
abbrev cX10_staysOf : ByteArray := prog_12_method_26_code
def yX10_staysOf : MethodName := ⟨RX10, "staysOf", "(II)I"⟩
abbrev cX10_law : ByteArray := prog_12_method_27_code
def yX10_law : MethodName := ⟨RX10, "law", "(IIII)I"⟩
abbrev cX10_mayBe : ByteArray := prog_12_method_28_code
def yX10_mayBe : MethodName := ⟨RX10, "mayBe", "(II)Z"⟩
abbrev cX10_set : ByteArray := prog_12_method_29_code
def yX10_set : MethodName := ⟨RX10, "set", "(II)I"⟩
abbrev cX10_isRight : ByteArray := prog_12_method_30_code
def yX10_isRight : MethodName := ⟨RX10, "isRight", "(III)Z"⟩
abbrev cX10_comes : ByteArray := prog_12_method_31_code
def yX10_comes : MethodName := ⟨RX10, "comes", "(III)I"⟩
abbrev cX10_way : ByteArray := prog_12_method_32_code
def yX10_way : MethodName := ⟨RX10, "way", "(III)I"⟩
abbrev cX10_easeOf : ByteArray := prog_12_method_33_code
def yX10_easeOf : MethodName := ⟨RX10, "easeOf", "([II)I"⟩
abbrev cX10_ofWay : ByteArray := prog_12_method_34_code
def yX10_ofWay : MethodName := ⟨RX10, "ofWay", "(II)I"⟩
abbrev cX10_wear : ByteArray := prog_12_method_35_code
def yX10_wear : MethodName := ⟨RX10, "wear", "(III)I"⟩
abbrev cX10_isOf : ByteArray := prog_12_method_36_code
def yX10_isOf : MethodName := ⟨RX10, "isOf", "(II)Z"⟩
abbrev cX10_as : ByteArray := prog_12_method_37_code
def yX10_as : MethodName := ⟨RX10, "as", "(II)I"⟩
abbrev cX10_ways : ByteArray := prog_12_method_38_code
def yX10_ways : MethodName := ⟨RX10, "ways", "(I)I"⟩
abbrev cX10_mends : ByteArray := prog_12_method_39_code
def yX10_mends : MethodName := ⟨RX10, "mends", "([II)V"⟩
abbrev cX10_mend : ByteArray := prog_12_method_40_code
def yX10_mend : MethodName := ⟨RX10, "mend", "(I)I"⟩
abbrev cX10_thing : ByteArray := prog_12_method_41_code
def yX10_thing : MethodName := ⟨RX10, "thing", "(II)I"⟩
abbrev cX10_ofThing : ByteArray := prog_12_method_42_code
def yX10_ofThing : MethodName := ⟨RX10, "ofThing", "(II)I"⟩
abbrev cX10_hang : ByteArray := prog_12_method_43_code
def yX10_hang : MethodName := ⟨RX10, "hang", "(II)I"⟩
abbrev cX10_bitten : ByteArray := prog_12_method_44_code
def yX10_bitten : MethodName := ⟨RX10, "bitten", "()I"⟩
abbrev cX10_fearOf : ByteArray := prog_12_method_45_code
def yX10_fearOf : MethodName := ⟨RX10, "fearOf", "([I)I"⟩
abbrev cX10_boldOf : ByteArray := prog_12_method_46_code
def yX10_boldOf : MethodName := ⟨RX10, "boldOf", "([I)I"⟩
abbrev cX10_bold : ByteArray := prog_12_method_47_code
def yX10_bold : MethodName := ⟨RX10, "bold", "()I"⟩
abbrev cX10_enters : ByteArray := prog_12_method_48_code
def yX10_enters : MethodName := ⟨RX10, "enters", "([IIII)Z"⟩
abbrev cX10_nextWay : ByteArray := prog_12_method_49_code
def yX10_nextWay : MethodName := ⟨RX10, "nextWay", "([I)I"⟩
abbrev cX10_tries : ByteArray := prog_12_method_50_code
def yX10_tries : MethodName := ⟨RX10, "tries", "([II)Z"⟩
abbrev cX10_goesRound : ByteArray := prog_12_method_51_code
def yX10_goesRound : MethodName := ⟨RX10, "goesRound", "([I)I"⟩
abbrev cX10_goesBy : ByteArray := prog_12_method_52_code
def yX10_goesBy : MethodName := ⟨RX10, "goesBy", "([I)I"⟩
abbrev cX10_goesOn : ByteArray := prog_12_method_53_code
def yX10_goesOn : MethodName := ⟨RX10, "goesOn", "([II)V"⟩
abbrev cX10_nights : ByteArray := prog_12_method_54_code
def yX10_nights : MethodName := ⟨RX10, "nights", "(I)I"⟩
abbrev cX10_careless : ByteArray := prog_12_method_55_code
def yX10_careless : MethodName := ⟨RX10, "careless", "(II)I"⟩
abbrev cX10_isAhead : ByteArray := prog_12_method_56_code
def yX10_isAhead : MethodName := ⟨RX10, "isAhead", "(I)Z"⟩
abbrev cX10_ahead : ByteArray := prog_12_method_57_code
def yX10_ahead : MethodName := ⟨RX10, "ahead", "(I)V"⟩
abbrev cX10_then : ByteArray := prog_12_method_58_code
def yX10_then : MethodName := ⟨RX10, "then", "(II)I"⟩
abbrev cX10_thenWay : ByteArray := prog_12_method_59_code
def yX10_thenWay : MethodName := ⟨RX10, "thenWay", "(III)I"⟩
abbrev cX10_loss : ByteArray := prog_12_method_60_code
def yX10_loss : MethodName := ⟨RX10, "loss", "(I)I"⟩
abbrev cX10_by : ByteArray := prog_12_method_61_code
def yX10_by : MethodName := ⟨RX10, "by", "()I"⟩
abbrev cX10_mends_ : ByteArray := prog_12_method_62_code
def yX10_mends_ : MethodName := ⟨RX10, "mends", "(III)I"⟩
abbrev cX10_orders : ByteArray := prog_12_method_63_code
def yX10_orders : MethodName := ⟨RX10, "orders", "(II)V"⟩
abbrev cX10_hangs : ByteArray := prog_12_method_64_code
def yX10_hangs : MethodName := ⟨RX10, "hangs", "(II)I"⟩
abbrev cX10_dusk : ByteArray := prog_12_method_65_code
def yX10_dusk : MethodName := ⟨RX10, "dusk", "(II)I"⟩
abbrev cX10_harmOf : ByteArray := prog_12_method_66_code
def yX10_harmOf : MethodName := ⟨RX10, "harmOf", "(I)I"⟩
abbrev cX10_harm : ByteArray := prog_12_method_67_code
def yX10_harm : MethodName := ⟨RX10, "harm", "(I)I"⟩
abbrev cX10_clock : ByteArray := prog_12_method_68_code
def yX10_clock : MethodName := ⟨RX10, "clock", "()I"⟩
abbrev cX10_common : ByteArray := prog_12_method_69_code
def yX10_common : MethodName := ⟨RX10, "common", "(JJ)J"⟩
abbrev cX10_odds : ByteArray := prog_12_method_70_code
def yX10_odds : MethodName := ⟨RX10, "odds", "(III)J"⟩
abbrev cX10_yard : ByteArray := prog_12_method_71_code
def yX10_yard : MethodName := ⟨RX10, "yard", "(IIII)I"⟩
abbrev cX10_village : ByteArray := prog_12_method_72_code
def yX10_village : MethodName := ⟨RX10, "village", "(I)I"⟩
abbrev cX10_offIn : ByteArray := prog_12_method_73_code
def yX10_offIn : MethodName := ⟨RX10, "offIn", "([II)I"⟩
abbrev cX10_whyNoSigns : ByteArray := prog_12_method_74_code
def yX10_whyNoSigns : MethodName := ⟨RX10, "whyNoSigns", "(I)I"⟩
abbrev cX10_off : ByteArray := prog_12_method_75_code
def yX10_off : MethodName := ⟨RX10, "off", "(I)I"⟩
abbrev cX10_hungry : ByteArray := prog_12_method_76_code
def yX10_hungry : MethodName := ⟨RX10, "hungry", "(I)I"⟩
abbrev cX10_seed : ByteArray := prog_12_method_77_code
def yX10_seed : MethodName := ⟨RX10, "seed", "(I)I"⟩
abbrev cX10_ran : ByteArray := prog_12_method_78_code
def yX10_ran : MethodName := ⟨RX10, "ran", "(I)V"⟩
abbrev cX10_above : ByteArray := prog_12_method_79_code
def yX10_above : MethodName := ⟨RX10, "above", "(I)I"⟩
abbrev cX10_own : ByteArray := prog_12_method_80_code
def yX10_own : MethodName := ⟨RX10, "own", "()I"⟩
abbrev cX10_triesOf : ByteArray := prog_12_method_81_code
def yX10_triesOf : MethodName := ⟨RX10, "triesOf", "(II)I"⟩
abbrev cX10_fears : ByteArray := prog_12_method_82_code
def yX10_fears : MethodName := ⟨RX10, "fears", "(II)I"⟩
abbrev cX10_shuts : ByteArray := prog_12_method_83_code
def yX10_shuts : MethodName := ⟨RX10, "shuts", "(II)I"⟩
abbrev cX10_tells : ByteArray := prog_12_method_84_code
def yX10_tells : MethodName := ⟨RX10, "tells", "(II)I"⟩
abbrev cX10_voice : ByteArray := prog_12_method_85_code
def yX10_voice : MethodName := ⟨RX10, "voice", "(III)I"⟩
abbrev cX10_trace : ByteArray := prog_12_method_86_code
def yX10_trace : MethodName := ⟨RX10, "trace", "(I)I"⟩
abbrev cX10_isSheet : ByteArray := prog_12_method_87_code
def yX10_isSheet : MethodName := ⟨RX10, "isSheet", "(I)Z"⟩
abbrev cX10_sheet : ByteArray := prog_12_method_88_code
def yX10_sheet : MethodName := ⟨RX10, "sheet", "(III)I"⟩
abbrev cX10_put : ByteArray := prog_12_method_89_code
def yX10_put : MethodName := ⟨RX10, "put", "(III)I"⟩
abbrev cX10_move : ByteArray := prog_12_method_90_code
def yX10_move : MethodName := ⟨RX10, "move", "(IIIII)I"⟩
abbrev cX10_image : ByteArray := prog_12_method_91_code
def yX10_image : MethodName := ⟨RX10, "image", "()I"⟩
abbrev cX10_restore : ByteArray := prog_12_method_92_code
def yX10_restore : MethodName := ⟨RX10, "restore", "()I"⟩
abbrev cX10_tell : ByteArray := prog_12_method_93_code
def yX10_tell : MethodName := ⟨RX10, "tell", "(I)I"⟩
abbrev cX10_check : ByteArray := prog_12_method_94_code
def yX10_check : MethodName := ⟨RX10, "check", "()I"⟩
abbrev cX10_count : ByteArray := prog_12_method_95_code
def yX10_count : MethodName := ⟨RX10, "count", "(I)I"⟩
abbrev cX10_told : ByteArray := prog_12_method_96_code
def yX10_told : MethodName := ⟨RX10, "told", "(I)I"⟩
def RJ11 : String := "java/lang/Character"
def TJ11 : u_T := fun k => match k with
  | _ => ("", "", "", false)
def tyJ11 : Nat → FieldType := fun k => match k with
  | _ => .int
abbrev wsJ110 : List Cond := u_ws RJ11 TJ11 0
theorem nmJ11 : ∀ a, a < 0 → ∀ b, b < 0 → a ≠ b → (TJ11 a).2.1 ≠ (TJ11 b).2.1 := by decide +kernel
theorem tyJ11_ok : ∀ k, k < 0 → parseFieldDescriptor (TJ11 k).2.2.1 = some (tyJ11 k) := by decide +kernel
abbrev cJ11_isValidCodePoint_9a6ad : ByteArray := prog_13_method_11_code
def yJ11_isValidCodePoint_9a6ad : MethodName := ⟨RJ11, "isValidCodePoint", "(I)Z"⟩
abbrev cJ11_highSurrogate_5068e : ByteArray := prog_13_method_28_code
def yJ11_highSurrogate_5068e : MethodName := ⟨RJ11, "highSurrogate", "(I)C"⟩
abbrev cJ11_lowSurrogate_5068e : ByteArray := prog_13_method_29_code
def yJ11_lowSurrogate_5068e : MethodName := ⟨RJ11, "lowSurrogate", "(I)C"⟩
def RJ9 : String := "java/lang/Math"
def TJ9 : u_T := fun k => match k with
  | _ => ("", "", "", false)
def tyJ9 : Nat → FieldType := fun k => match k with
  | _ => .int
abbrev wsJ90 : List Cond := u_ws RJ9 TJ9 0
theorem nmJ9 : ∀ a, a < 0 → ∀ b, b < 0 → a ≠ b → (TJ9 a).2.1 ≠ (TJ9 b).2.1 := by decide +kernel
theorem tyJ9_ok : ∀ k, k < 0 → parseFieldDescriptor (TJ9 k).2.2.1 = some (tyJ9 k) := by decide +kernel
abbrev cJ9_abs_067f4 : ByteArray := prog_14_method_61_code
def yJ9_abs_067f4 : MethodName := ⟨RJ9, "abs", "(J)J"⟩
abbrev cJ9_max_7cf53 : ByteArray := prog_14_method_65_code
def yJ9_max_7cf53 : MethodName := ⟨RJ9, "max", "(II)I"⟩
abbrev cJ9_min_7cf53 : ByteArray := prog_14_method_69_code
def yJ9_min_7cf53 : MethodName := ⟨RJ9, "min", "(II)I"⟩
abbrev cJ9_min_f86c9 : ByteArray := prog_14_method_70_code
def yJ9_min_f86c9 : MethodName := ⟨RJ9, "min", "(JJ)J"⟩
def RJ0 : String := "java/lang/String"
def TJ0 : u_T := fun k => match k with
  | _ => ("", "", "", false)
def tyJ0 : Nat → FieldType := fun k => match k with
  | _ => .int
abbrev wsJ00 : List Cond := u_ws RJ0 TJ0 0
theorem nmJ0 : ∀ a, a < 0 → ∀ b, b < 0 → a ≠ b → (TJ0 a).2.1 ≠ (TJ0 b).2.1 := by decide +kernel
theorem tyJ0_ok : ∀ k, k < 0 → parseFieldDescriptor (TJ0 k).2.2.1 = some (tyJ0 k) := by decide +kernel
abbrev cJ0_length_8abf5 : ByteArray := prog_15_method_54_code
def yJ0_length_8abf5 : MethodName := ⟨RJ0, "length", "()I"⟩
abbrev cJ0_indexOf_0f7a4 : ByteArray := prog_15_method_79_code
def yJ0_indexOf_0f7a4 : MethodName := ⟨RJ0, "indexOf", "(I)I"⟩
abbrev cJ0_indexOf_7cf53 : ByteArray := prog_15_method_80_code
def yJ0_indexOf_7cf53 : MethodName := ⟨RJ0, "indexOf", "(II)I"⟩
abbrev cJ0_coder_7d493 : ByteArray := prog_15_method_152_code
def yJ0_coder_7d493 : MethodName := ⟨RJ0, "coder", "()B"⟩
abbrev cJ0_isLatin1_aae02 : ByteArray := prog_15_method_154_code
def yJ0_isLatin1_aae02 : MethodName := ⟨RJ0, "isLatin1", "()Z"⟩
abbrev cJ0_checkBoundsBeginEnd_23922 : ByteArray := prog_15_method_158_code
def yJ0_checkBoundsBeginEnd_23922 : MethodName := ⟨RJ0, "checkBoundsBeginEnd", "(III)V"⟩
def RJ1 : String := "java/lang/StringLatin1"
def TJ1 : u_T := fun k => match k with
  | _ => ("", "", "", false)
def tyJ1 : Nat → FieldType := fun k => match k with
  | _ => .int
abbrev wsJ10 : List Cond := u_ws RJ1 TJ1 0
theorem nmJ1 : ∀ a, a < 0 → ∀ b, b < 0 → a ≠ b → (TJ1 a).2.1 ≠ (TJ1 b).2.1 := by decide +kernel
theorem tyJ1_ok : ∀ k, k < 0 → parseFieldDescriptor (TJ1 k).2.2.1 = some (tyJ1 k) := by decide +kernel
abbrev cJ1_canEncode_9a6ad : ByteArray := prog_16_method_4_code
def yJ1_canEncode_9a6ad : MethodName := ⟨RJ1, "canEncode", "(I)Z"⟩
abbrev cJ1_indexOf_4cfef : ByteArray := prog_16_method_22_code
def yJ1_indexOf_4cfef : MethodName := ⟨RJ1, "indexOf", "([BIII)I"⟩
abbrev cJ1_indexOfChar_4cfef : ByteArray := prog_16_method_23_code
def yJ1_indexOfChar_4cfef : MethodName := ⟨RJ1, "indexOfChar", "([BIII)I"⟩
def RJ2 : String := "java/lang/StringUTF16"
def TJ2 : u_T := fun k => match k with
  | _ => ("", "", "", false)
def tyJ2 : Nat → FieldType := fun k => match k with
  | _ => .int
abbrev wsJ20 : List Cond := u_ws RJ2 TJ2 0
theorem nmJ2 : ∀ a, a < 0 → ∀ b, b < 0 → a ≠ b → (TJ2 a).2.1 ≠ (TJ2 b).2.1 := by decide +kernel
theorem tyJ2_ok : ∀ k, k < 0 → parseFieldDescriptor (TJ2 k).2.2.1 = some (tyJ2 k) := by decide +kernel
abbrev cJ2_getChar_3b067 : ByteArray := prog_17_method_5_code
def yJ2_getChar_3b067 : MethodName := ⟨RJ2, "getChar", "([BI)C"⟩
abbrev cJ2_length_9d52b : ByteArray := prog_17_method_6_code
def yJ2_length_9d52b : MethodName := ⟨RJ2, "length", "([B)I"⟩
abbrev cJ2_indexOf_4cfef : ByteArray := prog_17_method_40_code
def yJ2_indexOf_4cfef : MethodName := ⟨RJ2, "indexOf", "([BIII)I"⟩
abbrev cJ2_indexOfChar_4cfef : ByteArray := prog_17_method_47_code
def yJ2_indexOfChar_4cfef : MethodName := ⟨RJ2, "indexOfChar", "([BIII)I"⟩
abbrev cJ2_indexOfCharUnsafe_4cfef : ByteArray := prog_17_method_48_code
def yJ2_indexOfCharUnsafe_4cfef : MethodName := ⟨RJ2, "indexOfCharUnsafe", "([BIII)I"⟩
abbrev cJ2_indexOfSupplementary_4cfef : ByteArray := prog_17_method_49_code
def yJ2_indexOfSupplementary_4cfef : MethodName := ⟨RJ2, "indexOfSupplementary", "([BIII)I"⟩
abbrev cJ2_checkBoundsBeginEnd_d044e : ByteArray := prog_17_method_93_code
def yJ2_checkBoundsBeginEnd_d044e : MethodName := ⟨RJ2, "checkBoundsBeginEnd", "(II[B)V"⟩
def RJ10 : String := "java/lang/System"
def TJ10 : u_T := fun k => match k with
  | _ => ("", "", "", false)
def tyJ10 : Nat → FieldType := fun k => match k with
  | _ => .int
abbrev wsJ100 : List Cond := u_ws RJ10 TJ10 0
theorem nmJ10 : ∀ a, a < 0 → ∀ b, b < 0 → a ≠ b → (TJ10 a).2.1 ≠ (TJ10 b).2.1 := by decide +kernel
theorem tyJ10_ok : ∀ k, k < 0 → parseFieldDescriptor (TJ10 k).2.2.1 = some (tyJ10 k) := by decide +kernel
def RJ3 : String := "jdk/internal/util/Preconditions"
def TJ3 : u_T := fun k => match k with
  | _ => ("", "", "", false)
def tyJ3 : Nat → FieldType := fun k => match k with
  | _ => .int
abbrev wsJ30 : List Cond := u_ws RJ3 TJ3 0
theorem nmJ3 : ∀ a, a < 0 → ∀ b, b < 0 → a ≠ b → (TJ3 a).2.1 ≠ (TJ3 b).2.1 := by decide +kernel
theorem tyJ3_ok : ∀ k, k < 0 → parseFieldDescriptor (TJ3 k).2.2.1 = some (tyJ3 k) := by decide +kernel
abbrev cJ3_checkFromToIndex_8c36e : ByteArray := prog_19_method_12_code
def yJ3_checkFromToIndex_8c36e : MethodName := ⟨RJ3, "checkFromToIndex", "(IIILjava/util/function/BiFunction;)I"⟩
abbrev cL_law : ByteArray := code
