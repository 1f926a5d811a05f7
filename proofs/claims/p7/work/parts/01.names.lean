-- ===== PART A: goes FIRST, ahead of the names: the tables' words, and 'selects' of the private methods out of them =====
/-- a private method of a class that the tables say can be made, by its rows of tables_1 -/
def lw_okq (q : MethodName × Nat) : Prop := (q.1.cls ≠ "java/lang/invoke/MethodHandle" ∧ q.1.cls ≠ "java/lang/invoke/VarHandle") ∧ Cond.instantiable q.1.cls q.2 ∈ tables_1 ∧ Cond.privateMethod q.1 ∈ tables_1 ∧ Cond.instanceMethod q.1 ∈ tables_1
theorem lw_p0 : lw_okq (⟨"HeronsBench", "refused", "(I)I"⟩, 8) := ⟨⟨by decide +kernel, by decide +kernel⟩, List.mem_of_getElem? (i := 17) (by decide +kernel), List.mem_of_getElem? (i := 377) (by decide +kernel), List.mem_of_getElem? (i := 378) (by decide +kernel)⟩
theorem lw_p1 : lw_okq (⟨"HeronsBench", "handDid", "(I)I"⟩, 8) := ⟨⟨by decide +kernel, by decide +kernel⟩, List.mem_of_getElem? (i := 17) (by decide +kernel), List.mem_of_getElem? (i := 385) (by decide +kernel), List.mem_of_getElem? (i := 386) (by decide +kernel)⟩
theorem lw_p2 : lw_okq (⟨"HeronsBench$Works", "isFull", "(I)Z"⟩, 13) := ⟨⟨by decide +kernel, by decide +kernel⟩, List.mem_of_getElem? (i := 89) (by decide +kernel), List.mem_of_getElem? (i := 397) (by decide +kernel), List.mem_of_getElem? (i := 398) (by decide +kernel)⟩
theorem lw_p3 : lw_okq (⟨"HeronsBench$Works", "tip", "(I)V"⟩, 13) := ⟨⟨by decide +kernel, by decide +kernel⟩, List.mem_of_getElem? (i := 89) (by decide +kernel), List.mem_of_getElem? (i := 401) (by decide +kernel), List.mem_of_getElem? (i := 402) (by decide +kernel)⟩
theorem lw_p4 : lw_okq (⟨"HeronsBench$Works", "happen", "(II)V"⟩, 13) := ⟨⟨by decide +kernel, by decide +kernel⟩, List.mem_of_getElem? (i := 89) (by decide +kernel), List.mem_of_getElem? (i := 416) (by decide +kernel), List.mem_of_getElem? (i := 417) (by decide +kernel)⟩
theorem lw_p5 : lw_okq (⟨"HeronsBench$Works", "settleSiphon", "(I)V"⟩, 13) := ⟨⟨by decide +kernel, by decide +kernel⟩, List.mem_of_getElem? (i := 89) (by decide +kernel), List.mem_of_getElem? (i := 420) (by decide +kernel), List.mem_of_getElem? (i := 421) (by decide +kernel)⟩
theorem lw_p6 : lw_okq (⟨"HeronsBench$Works", "settleFloat", "(I)V"⟩, 13) := ⟨⟨by decide +kernel, by decide +kernel⟩, List.mem_of_getElem? (i := 89) (by decide +kernel), List.mem_of_getElem? (i := 432) (by decide +kernel), List.mem_of_getElem? (i := 433) (by decide +kernel)⟩
theorem lw_p7 : lw_okq (⟨"HeronsBench$Works", "ownIs", "(IZ)Z"⟩, 13) := ⟨⟨by decide +kernel, by decide +kernel⟩, List.mem_of_getElem? (i := 89) (by decide +kernel), List.mem_of_getElem? (i := 436) (by decide +kernel), List.mem_of_getElem? (i := 437) (by decide +kernel)⟩
theorem lw_p8 : lw_okq (⟨"HeronsBench$Works", "advance", "(JJ)Z"⟩, 13) := ⟨⟨by decide +kernel, by decide +kernel⟩, List.mem_of_getElem? (i := 89) (by decide +kernel), List.mem_of_getElem? (i := 452) (by decide +kernel), List.mem_of_getElem? (i := 453) (by decide +kernel)⟩
theorem lw_p9 : lw_okq (⟨"HeronsBench$Works", "commonBehind", "(JJJ)J"⟩, 13) := ⟨⟨by decide +kernel, by decide +kernel⟩, List.mem_of_getElem? (i := 89) (by decide +kernel), List.mem_of_getElem? (i := 456) (by decide +kernel), List.mem_of_getElem? (i := 457) (by decide +kernel)⟩
theorem lw_p10 : lw_okq (⟨"HeronsBench", "answered", "(I)I"⟩, 8) := ⟨⟨by decide +kernel, by decide +kernel⟩, List.mem_of_getElem? (i := 17) (by decide +kernel), List.mem_of_getElem? (i := 475) (by decide +kernel), List.mem_of_getElem? (i := 476) (by decide +kernel)⟩
theorem lw_p11 : lw_okq (⟨"HeronsBench$Works", "bring", "(II)V"⟩, 13) := ⟨⟨by decide +kernel, by decide +kernel⟩, List.mem_of_getElem? (i := 89) (by decide +kernel), List.mem_of_getElem? (i := 560) (by decide +kernel), List.mem_of_getElem? (i := 561) (by decide +kernel)⟩
theorem lw_p12 : lw_okq (⟨"HeronsBench$Works", "reckonVessel", "(I)V"⟩, 13) := ⟨⟨by decide +kernel, by decide +kernel⟩, List.mem_of_getElem? (i := 89) (by decide +kernel), List.mem_of_getElem? (i := 564) (by decide +kernel), List.mem_of_getElem? (i := 565) (by decide +kernel)⟩
theorem lw_p13 : lw_okq (⟨"HeronsBench$Works", "seekRise", "(I)V"⟩, 13) := ⟨⟨by decide +kernel, by decide +kernel⟩, List.mem_of_getElem? (i := 89) (by decide +kernel), List.mem_of_getElem? (i := 571) (by decide +kernel), List.mem_of_getElem? (i := 572) (by decide +kernel)⟩
theorem lw_p14 : lw_okq (⟨"HeronsBench$Works", "offer", "(JJ)V"⟩, 13) := ⟨⟨by decide +kernel, by decide +kernel⟩, List.mem_of_getElem? (i := 89) (by decide +kernel), List.mem_of_getElem? (i := 575) (by decide +kernel), List.mem_of_getElem? (i := 576) (by decide +kernel)⟩
theorem lw_p15 : lw_okq (⟨"HeronsBench$Works", "seekFall", "(I)V"⟩, 13) := ⟨⟨by decide +kernel, by decide +kernel⟩, List.mem_of_getElem? (i := 89) (by decide +kernel), List.mem_of_getElem? (i := 579) (by decide +kernel), List.mem_of_getElem? (i := 580) (by decide +kernel)⟩
def lw_privs_1 : List (MethodName × Nat) := [(⟨"HeronsBench", "refused", "(I)I"⟩, 8), (⟨"HeronsBench", "handDid", "(I)I"⟩, 8), (⟨"HeronsBench$Works", "isFull", "(I)Z"⟩, 13), (⟨"HeronsBench$Works", "tip", "(I)V"⟩, 13), (⟨"HeronsBench$Works", "happen", "(II)V"⟩, 13), (⟨"HeronsBench$Works", "settleSiphon", "(I)V"⟩, 13), (⟨"HeronsBench$Works", "settleFloat", "(I)V"⟩, 13), (⟨"HeronsBench$Works", "ownIs", "(IZ)Z"⟩, 13), (⟨"HeronsBench$Works", "advance", "(JJ)Z"⟩, 13), (⟨"HeronsBench$Works", "commonBehind", "(JJJ)J"⟩, 13), (⟨"HeronsBench", "answered", "(I)I"⟩, 8), (⟨"HeronsBench$Works", "bring", "(II)V"⟩, 13), (⟨"HeronsBench$Works", "reckonVessel", "(I)V"⟩, 13), (⟨"HeronsBench$Works", "seekRise", "(I)V"⟩, 13), (⟨"HeronsBench$Works", "offer", "(JJ)V"⟩, 13), (⟨"HeronsBench$Works", "seekFall", "(I)V"⟩, 13)]
theorem lw_r1 : ∀ q ∈ lw_privs_1, lw_okq q := List.forall_mem_cons.mpr ⟨lw_p0, List.forall_mem_cons.mpr ⟨lw_p1, List.forall_mem_cons.mpr ⟨lw_p2, List.forall_mem_cons.mpr ⟨lw_p3, List.forall_mem_cons.mpr ⟨lw_p4, List.forall_mem_cons.mpr ⟨lw_p5, List.forall_mem_cons.mpr ⟨lw_p6, List.forall_mem_cons.mpr ⟨lw_p7, List.forall_mem_cons.mpr ⟨lw_p8, List.forall_mem_cons.mpr ⟨lw_p9, List.forall_mem_cons.mpr ⟨lw_p10, List.forall_mem_cons.mpr ⟨lw_p11, List.forall_mem_cons.mpr ⟨lw_p12, List.forall_mem_cons.mpr ⟨lw_p13, List.forall_mem_cons.mpr ⟨lw_p14, List.forall_mem_cons.mpr ⟨lw_p15, fun _ h => absurd h List.not_mem_nil⟩⟩⟩⟩⟩⟩⟩⟩⟩⟩⟩⟩⟩⟩⟩⟩
theorem lw_p16 : lw_okq (⟨"HeronsBench$Rounds", "keep", "(ILHeronsBench$Water;)V"⟩, 9) := ⟨⟨by decide +kernel, by decide +kernel⟩, List.mem_of_getElem? (i := 228) (by decide +kernel), List.mem_of_getElem? (i := 695) (by decide +kernel), List.mem_of_getElem? (i := 696) (by decide +kernel)⟩
theorem lw_p17 : lw_okq (⟨"HeronsBench$Rounds", "firstLike", "(LHeronsBench$Water;I)I"⟩, 9) := ⟨⟨by decide +kernel, by decide +kernel⟩, List.mem_of_getElem? (i := 228) (by decide +kernel), List.mem_of_getElem? (i := 703) (by decide +kernel), List.mem_of_getElem? (i := 704) (by decide +kernel)⟩
theorem lw_p18 : lw_okq (⟨"HeronsBench$Rounds", "isLike", "(ILHeronsBench$Water;)Z"⟩, 9) := ⟨⟨by decide +kernel, by decide +kernel⟩, List.mem_of_getElem? (i := 228) (by decide +kernel), List.mem_of_getElem? (i := 707) (by decide +kernel), List.mem_of_getElem? (i := 708) (by decide +kernel)⟩
theorem lw_p19 : lw_okq (⟨"HeronsBench$Rounds", "tell", "(ILHeronsBench$Water;)V"⟩, 9) := ⟨⟨by decide +kernel, by decide +kernel⟩, List.mem_of_getElem? (i := 228) (by decide +kernel), List.mem_of_getElem? (i := 711) (by decide +kernel), List.mem_of_getElem? (i := 712) (by decide +kernel)⟩
theorem lw_p20 : lw_okq (⟨"HeronsBench", "firstShutsAt", "(II)Z"⟩, 8) := ⟨⟨by decide +kernel, by decide +kernel⟩, List.mem_of_getElem? (i := 17) (by decide +kernel), List.mem_of_getElem? (i := 729) (by decide +kernel), List.mem_of_getElem? (i := 730) (by decide +kernel)⟩
theorem lw_p21 : lw_okq (⟨"HeronsBench", "takenFor", "(II)I"⟩, 8) := ⟨⟨by decide +kernel, by decide +kernel⟩, List.mem_of_getElem? (i := 17) (by decide +kernel), List.mem_of_getElem? (i := 831) (by decide +kernel), List.mem_of_getElem? (i := 832) (by decide +kernel)⟩
theorem lw_p22 : lw_okq (⟨"HeronsBench", "copiedBrims", "(II)I"⟩, 8) := ⟨⟨by decide +kernel, by decide +kernel⟩, List.mem_of_getElem? (i := 17) (by decide +kernel), List.mem_of_getElem? (i := 840) (by decide +kernel), List.mem_of_getElem? (i := 841) (by decide +kernel)⟩
theorem lw_p23 : lw_okq (⟨"HeronsBench", "putAmongFloats", "(I)I"⟩, 8) := ⟨⟨by decide +kernel, by decide +kernel⟩, List.mem_of_getElem? (i := 17) (by decide +kernel), List.mem_of_getElem? (i := 848) (by decide +kernel), List.mem_of_getElem? (i := 849) (by decide +kernel)⟩
theorem lw_p24 : lw_okq (⟨"HeronsBenchModel", "refused", "(I)I"⟩, 55) := ⟨⟨by decide +kernel, by decide +kernel⟩, List.mem_of_getElem? (i := 856) (by decide +kernel), List.mem_of_getElem? (i := 1036) (by decide +kernel), List.mem_of_getElem? (i := 1037) (by decide +kernel)⟩
theorem lw_p25 : lw_okq (⟨"HeronsBenchModel", "hand", "(I)I"⟩, 55) := ⟨⟨by decide +kernel, by decide +kernel⟩, List.mem_of_getElem? (i := 856) (by decide +kernel), List.mem_of_getElem? (i := 1040) (by decide +kernel), List.mem_of_getElem? (i := 1041) (by decide +kernel)⟩
theorem lw_p26 : lw_okq (⟨"HeronsBenchModel", "moment", "()V"⟩, 55) := ⟨⟨by decide +kernel, by decide +kernel⟩, List.mem_of_getElem? (i := 856) (by decide +kernel), List.mem_of_getElem? (i := 1044) (by decide +kernel), List.mem_of_getElem? (i := 1045) (by decide +kernel)⟩
theorem lw_p27 : lw_okq (⟨"HeronsBenchModel", "note", "(II)V"⟩, 55) := ⟨⟨by decide +kernel, by decide +kernel⟩, List.mem_of_getElem? (i := 856) (by decide +kernel), List.mem_of_getElem? (i := 1048) (by decide +kernel), List.mem_of_getElem? (i := 1049) (by decide +kernel)⟩
theorem lw_p28 : lw_okq (⟨"HeronsBenchModel", "pour", "(IJ)V"⟩, 55) := ⟨⟨by decide +kernel, by decide +kernel⟩, List.mem_of_getElem? (i := 856) (by decide +kernel), List.mem_of_getElem? (i := 1052) (by decide +kernel), List.mem_of_getElem? (i := 1053) (by decide +kernel)⟩
theorem lw_p29 : lw_okq (⟨"HeronsBenchModel", "isFloat", "(I)Z"⟩, 55) := ⟨⟨by decide +kernel, by decide +kernel⟩, List.mem_of_getElem? (i := 856) (by decide +kernel), List.mem_of_getElem? (i := 1056) (by decide +kernel), List.mem_of_getElem? (i := 1057) (by decide +kernel)⟩
theorem lw_p30 : lw_okq (⟨"HeronsBenchModel", "floats", "(I)V"⟩, 55) := ⟨⟨by decide +kernel, by decide +kernel⟩, List.mem_of_getElem? (i := 856) (by decide +kernel), List.mem_of_getElem? (i := 1060) (by decide +kernel), List.mem_of_getElem? (i := 1061) (by decide +kernel)⟩
theorem lw_p31 : lw_okq (⟨"HeronsBenchModel", "lowest", "()V"⟩, 55) := ⟨⟨by decide +kernel, by decide +kernel⟩, List.mem_of_getElem? (i := 856) (by decide +kernel), List.mem_of_getElem? (i := 1064) (by decide +kernel), List.mem_of_getElem? (i := 1065) (by decide +kernel)⟩
def lw_privs_2 : List (MethodName × Nat) := [(⟨"HeronsBench$Rounds", "keep", "(ILHeronsBench$Water;)V"⟩, 9), (⟨"HeronsBench$Rounds", "firstLike", "(LHeronsBench$Water;I)I"⟩, 9), (⟨"HeronsBench$Rounds", "isLike", "(ILHeronsBench$Water;)Z"⟩, 9), (⟨"HeronsBench$Rounds", "tell", "(ILHeronsBench$Water;)V"⟩, 9), (⟨"HeronsBench", "firstShutsAt", "(II)Z"⟩, 8), (⟨"HeronsBench", "takenFor", "(II)I"⟩, 8), (⟨"HeronsBench", "copiedBrims", "(II)I"⟩, 8), (⟨"HeronsBench", "putAmongFloats", "(I)I"⟩, 8), (⟨"HeronsBenchModel", "refused", "(I)I"⟩, 55), (⟨"HeronsBenchModel", "hand", "(I)I"⟩, 55), (⟨"HeronsBenchModel", "moment", "()V"⟩, 55), (⟨"HeronsBenchModel", "note", "(II)V"⟩, 55), (⟨"HeronsBenchModel", "pour", "(IJ)V"⟩, 55), (⟨"HeronsBenchModel", "isFloat", "(I)Z"⟩, 55), (⟨"HeronsBenchModel", "floats", "(I)V"⟩, 55), (⟨"HeronsBenchModel", "lowest", "()V"⟩, 55)]
theorem lw_r2 : ∀ q ∈ lw_privs_2, lw_okq q := List.forall_mem_cons.mpr ⟨lw_p16, List.forall_mem_cons.mpr ⟨lw_p17, List.forall_mem_cons.mpr ⟨lw_p18, List.forall_mem_cons.mpr ⟨lw_p19, List.forall_mem_cons.mpr ⟨lw_p20, List.forall_mem_cons.mpr ⟨lw_p21, List.forall_mem_cons.mpr ⟨lw_p22, List.forall_mem_cons.mpr ⟨lw_p23, List.forall_mem_cons.mpr ⟨lw_p24, List.forall_mem_cons.mpr ⟨lw_p25, List.forall_mem_cons.mpr ⟨lw_p26, List.forall_mem_cons.mpr ⟨lw_p27, List.forall_mem_cons.mpr ⟨lw_p28, List.forall_mem_cons.mpr ⟨lw_p29, List.forall_mem_cons.mpr ⟨lw_p30, List.forall_mem_cons.mpr ⟨lw_p31, fun _ h => absurd h List.not_mem_nil⟩⟩⟩⟩⟩⟩⟩⟩⟩⟩⟩⟩⟩⟩⟩⟩
theorem lw_p32 : lw_okq (⟨"HeronsBenchModel", "done", "(I)I"⟩, 55) := ⟨⟨by decide +kernel, by decide +kernel⟩, List.mem_of_getElem? (i := 856) (by decide +kernel), List.mem_of_getElem? (i := 1071) (by decide +kernel), List.mem_of_getElem? (i := 1072) (by decide +kernel)⟩
theorem lw_p33 : lw_okq (⟨"HeronsBenchModel", "isVessel", "(I)Z"⟩, 55) := ⟨⟨by decide +kernel, by decide +kernel⟩, List.mem_of_getElem? (i := 856) (by decide +kernel), List.mem_of_getElem? (i := 1079) (by decide +kernel), List.mem_of_getElem? (i := 1080) (by decide +kernel)⟩
theorem lw_p34 : lw_okq (⟨"HeronsBenchModel", "isPipe", "(I)Z"⟩, 55) := ⟨⟨by decide +kernel, by decide +kernel⟩, List.mem_of_getElem? (i := 856) (by decide +kernel), List.mem_of_getElem? (i := 1087) (by decide +kernel), List.mem_of_getElem? (i := 1088) (by decide +kernel)⟩
theorem lw_p35 : lw_okq (⟨"HeronsBenchModel", "isBehind", "(II)Z"⟩, 55) := ⟨⟨by decide +kernel, by decide +kernel⟩, List.mem_of_getElem? (i := 856) (by decide +kernel), List.mem_of_getElem? (i := 1095) (by decide +kernel), List.mem_of_getElem? (i := 1096) (by decide +kernel)⟩
theorem lw_p36 : lw_okq (⟨"HeronsBenchModel", "seek", "()V"⟩, 55) := ⟨⟨by decide +kernel, by decide +kernel⟩, List.mem_of_getElem? (i := 856) (by decide +kernel), List.mem_of_getElem? (i := 1123) (by decide +kernel), List.mem_of_getElem? (i := 1124) (by decide +kernel)⟩
theorem lw_p37 : lw_okq (⟨"HeronsBenchModel", "rates", "()V"⟩, 55) := ⟨⟨by decide +kernel, by decide +kernel⟩, List.mem_of_getElem? (i := 856) (by decide +kernel), List.mem_of_getElem? (i := 1127) (by decide +kernel), List.mem_of_getElem? (i := 1128) (by decide +kernel)⟩
theorem lw_p38 : lw_okq (⟨"HeronsBenchModel", "runs", "(I)Z"⟩, 55) := ⟨⟨by decide +kernel, by decide +kernel⟩, List.mem_of_getElem? (i := 856) (by decide +kernel), List.mem_of_getElem? (i := 1131) (by decide +kernel), List.mem_of_getElem? (i := 1132) (by decide +kernel)⟩
theorem lw_p39 : lw_okq (⟨"HeronsBenchModel", "goesTo", "(II)V"⟩, 55) := ⟨⟨by decide +kernel, by decide +kernel⟩, List.mem_of_getElem? (i := 856) (by decide +kernel), List.mem_of_getElem? (i := 1135) (by decide +kernel), List.mem_of_getElem? (i := 1136) (by decide +kernel)⟩
theorem lw_p40 : lw_okq (⟨"HeronsBenchModel", "rateOf", "(I)V"⟩, 55) := ⟨⟨by decide +kernel, by decide +kernel⟩, List.mem_of_getElem? (i := 856) (by decide +kernel), List.mem_of_getElem? (i := 1139) (by decide +kernel), List.mem_of_getElem? (i := 1140) (by decide +kernel)⟩
theorem lw_p41 : lw_okq (⟨"HeronsBenchModel", "may", "(JI)V"⟩, 55) := ⟨⟨by decide +kernel, by decide +kernel⟩, List.mem_of_getElem? (i := 856) (by decide +kernel), List.mem_of_getElem? (i := 1143) (by decide +kernel), List.mem_of_getElem? (i := 1144) (by decide +kernel)⟩
theorem lw_p42 : lw_okq (⟨"HeronsBenchModel", "step", "(J)I"⟩, 55) := ⟨⟨by decide +kernel, by decide +kernel⟩, List.mem_of_getElem? (i := 856) (by decide +kernel), List.mem_of_getElem? (i := 1147) (by decide +kernel), List.mem_of_getElem? (i := 1148) (by decide +kernel)⟩
theorem lw_p43 : lw_okq (⟨"HeronsBenchModel", "passes", "(JJ)Z"⟩, 55) := ⟨⟨by decide +kernel, by decide +kernel⟩, List.mem_of_getElem? (i := 856) (by decide +kernel), List.mem_of_getElem? (i := 1151) (by decide +kernel), List.mem_of_getElem? (i := 1152) (by decide +kernel)⟩
theorem lw_p44 : lw_okq (⟨"HeronsBenchModel", "moved", "(JJJJJ)J"⟩, 55) := ⟨⟨by decide +kernel, by decide +kernel⟩, List.mem_of_getElem? (i := 856) (by decide +kernel), List.mem_of_getElem? (i := 1155) (by decide +kernel), List.mem_of_getElem? (i := 1156) (by decide +kernel)⟩
theorem lw_p45 : lw_okq (⟨"HeronsBenchModel", "keep", "()V"⟩, 55) := ⟨⟨by decide +kernel, by decide +kernel⟩, List.mem_of_getElem? (i := 856) (by decide +kernel), List.mem_of_getElem? (i := 1213) (by decide +kernel), List.mem_of_getElem? (i := 1214) (by decide +kernel)⟩
theorem lw_p46 : lw_okq (⟨"HeronsBenchModel", "seekRound", "()I"⟩, 55) := ⟨⟨by decide +kernel, by decide +kernel⟩, List.mem_of_getElem? (i := 856) (by decide +kernel), List.mem_of_getElem? (i := 1217) (by decide +kernel), List.mem_of_getElem? (i := 1218) (by decide +kernel)⟩
theorem lw_p47 : lw_okq (⟨"HeronsBenchModel", "put", "(I)V"⟩, 55) := ⟨⟨by decide +kernel, by decide +kernel⟩, List.mem_of_getElem? (i := 856) (by decide +kernel), List.mem_of_getElem? (i := 1221) (by decide +kernel), List.mem_of_getElem? (i := 1222) (by decide +kernel)⟩
def lw_privs_3 : List (MethodName × Nat) := [(⟨"HeronsBenchModel", "done", "(I)I"⟩, 55), (⟨"HeronsBenchModel", "isVessel", "(I)Z"⟩, 55), (⟨"HeronsBenchModel", "isPipe", "(I)Z"⟩, 55), (⟨"HeronsBenchModel", "isBehind", "(II)Z"⟩, 55), (⟨"HeronsBenchModel", "seek", "()V"⟩, 55), (⟨"HeronsBenchModel", "rates", "()V"⟩, 55), (⟨"HeronsBenchModel", "runs", "(I)Z"⟩, 55), (⟨"HeronsBenchModel", "goesTo", "(II)V"⟩, 55), (⟨"HeronsBenchModel", "rateOf", "(I)V"⟩, 55), (⟨"HeronsBenchModel", "may", "(JI)V"⟩, 55), (⟨"HeronsBenchModel", "step", "(J)I"⟩, 55), (⟨"HeronsBenchModel", "passes", "(JJ)Z"⟩, 55), (⟨"HeronsBenchModel", "moved", "(JJJJJ)J"⟩, 55), (⟨"HeronsBenchModel", "keep", "()V"⟩, 55), (⟨"HeronsBenchModel", "seekRound", "()I"⟩, 55), (⟨"HeronsBenchModel", "put", "(I)V"⟩, 55)]
theorem lw_r3 : ∀ q ∈ lw_privs_3, lw_okq q := List.forall_mem_cons.mpr ⟨lw_p32, List.forall_mem_cons.mpr ⟨lw_p33, List.forall_mem_cons.mpr ⟨lw_p34, List.forall_mem_cons.mpr ⟨lw_p35, List.forall_mem_cons.mpr ⟨lw_p36, List.forall_mem_cons.mpr ⟨lw_p37, List.forall_mem_cons.mpr ⟨lw_p38, List.forall_mem_cons.mpr ⟨lw_p39, List.forall_mem_cons.mpr ⟨lw_p40, List.forall_mem_cons.mpr ⟨lw_p41, List.forall_mem_cons.mpr ⟨lw_p42, List.forall_mem_cons.mpr ⟨lw_p43, List.forall_mem_cons.mpr ⟨lw_p44, List.forall_mem_cons.mpr ⟨lw_p45, List.forall_mem_cons.mpr ⟨lw_p46, List.forall_mem_cons.mpr ⟨lw_p47, fun _ h => absurd h List.not_mem_nil⟩⟩⟩⟩⟩⟩⟩⟩⟩⟩⟩⟩⟩⟩⟩⟩
theorem lw_p48 : lw_okq (⟨"HeronsBenchModel", "isSame", "(II)Z"⟩, 55) := ⟨⟨by decide +kernel, by decide +kernel⟩, List.mem_of_getElem? (i := 856) (by decide +kernel), List.mem_of_getElem? (i := 1226) (by decide +kernel), List.mem_of_getElem? (i := 1227) (by decide +kernel)⟩
theorem lw_p49 : lw_okq (⟨"HeronsBenchModel", "back", "()V"⟩, 55) := ⟨⟨by decide +kernel, by decide +kernel⟩, List.mem_of_getElem? (i := 856) (by decide +kernel), List.mem_of_getElem? (i := 1230) (by decide +kernel), List.mem_of_getElem? (i := 1231) (by decide +kernel)⟩
theorem lw_p50 : lw_okq (⟨"HeronsBenchModel", "shutsAt", "(I)Z"⟩, 55) := ⟨⟨by decide +kernel, by decide +kernel⟩, List.mem_of_getElem? (i := 856) (by decide +kernel), List.mem_of_getElem? (i := 1238) (by decide +kernel), List.mem_of_getElem? (i := 1239) (by decide +kernel)⟩
theorem lw_p51 : lw_okq (⟨"HeronsBenchModel", "fill0", "(II)I"⟩, 55) := ⟨⟨by decide +kernel, by decide +kernel⟩, List.mem_of_getElem? (i := 856) (by decide +kernel), List.mem_of_getElem? (i := 1246) (by decide +kernel), List.mem_of_getElem? (i := 1247) (by decide +kernel)⟩
theorem lw_p52 : lw_okq (⟨"HeronsBenchModel", "ran", "(I)V"⟩, 55) := ⟨⟨by decide +kernel, by decide +kernel⟩, List.mem_of_getElem? (i := 856) (by decide +kernel), List.mem_of_getElem? (i := 1250) (by decide +kernel), List.mem_of_getElem? (i := 1251) (by decide +kernel)⟩
theorem lw_p53 : lw_okq (⟨"HeronsBenchModel", "vesselFill", "(II)I"⟩, 55) := ⟨⟨by decide +kernel, by decide +kernel⟩, List.mem_of_getElem? (i := 856) (by decide +kernel), List.mem_of_getElem? (i := 1254) (by decide +kernel), List.mem_of_getElem? (i := 1255) (by decide +kernel)⟩
theorem lw_p54 : lw_okq (⟨"HeronsBenchModel", "turn0", "(II)I"⟩, 55) := ⟨⟨by decide +kernel, by decide +kernel⟩, List.mem_of_getElem? (i := 856) (by decide +kernel), List.mem_of_getElem? (i := 1258) (by decide +kernel), List.mem_of_getElem? (i := 1259) (by decide +kernel)⟩
theorem lw_p55 : lw_okq (⟨"HeronsBenchModel", "vesselTurn", "(II)I"⟩, 55) := ⟨⟨by decide +kernel, by decide +kernel⟩, List.mem_of_getElem? (i := 856) (by decide +kernel), List.mem_of_getElem? (i := 1262) (by decide +kernel), List.mem_of_getElem? (i := 1263) (by decide +kernel)⟩
theorem lw_p56 : lw_okq (⟨"HeronsBenchModel", "count0", "(II)I"⟩, 55) := ⟨⟨by decide +kernel, by decide +kernel⟩, List.mem_of_getElem? (i := 856) (by decide +kernel), List.mem_of_getElem? (i := 1266) (by decide +kernel), List.mem_of_getElem? (i := 1267) (by decide +kernel)⟩
theorem lw_p57 : lw_okq (⟨"HeronsBenchModel", "tell0", "(II)I"⟩, 55) := ⟨⟨by decide +kernel, by decide +kernel⟩, List.mem_of_getElem? (i := 856) (by decide +kernel), List.mem_of_getElem? (i := 1270) (by decide +kernel), List.mem_of_getElem? (i := 1271) (by decide +kernel)⟩
theorem lw_p58 : lw_okq (⟨"HeronsBenchModel", "sumOf", "(II)I"⟩, 55) := ⟨⟨by decide +kernel, by decide +kernel⟩, List.mem_of_getElem? (i := 856) (by decide +kernel), List.mem_of_getElem? (i := 1285) (by decide +kernel), List.mem_of_getElem? (i := 1286) (by decide +kernel)⟩
def lw_privs_4 : List (MethodName × Nat) := [(⟨"HeronsBenchModel", "isSame", "(II)Z"⟩, 55), (⟨"HeronsBenchModel", "back", "()V"⟩, 55), (⟨"HeronsBenchModel", "shutsAt", "(I)Z"⟩, 55), (⟨"HeronsBenchModel", "fill0", "(II)I"⟩, 55), (⟨"HeronsBenchModel", "ran", "(I)V"⟩, 55), (⟨"HeronsBenchModel", "vesselFill", "(II)I"⟩, 55), (⟨"HeronsBenchModel", "turn0", "(II)I"⟩, 55), (⟨"HeronsBenchModel", "vesselTurn", "(II)I"⟩, 55), (⟨"HeronsBenchModel", "count0", "(II)I"⟩, 55), (⟨"HeronsBenchModel", "tell0", "(II)I"⟩, 55), (⟨"HeronsBenchModel", "sumOf", "(II)I"⟩, 55)]
theorem lw_r4 : ∀ q ∈ lw_privs_4, lw_okq q := List.forall_mem_cons.mpr ⟨lw_p48, List.forall_mem_cons.mpr ⟨lw_p49, List.forall_mem_cons.mpr ⟨lw_p50, List.forall_mem_cons.mpr ⟨lw_p51, List.forall_mem_cons.mpr ⟨lw_p52, List.forall_mem_cons.mpr ⟨lw_p53, List.forall_mem_cons.mpr ⟨lw_p54, List.forall_mem_cons.mpr ⟨lw_p55, List.forall_mem_cons.mpr ⟨lw_p56, List.forall_mem_cons.mpr ⟨lw_p57, List.forall_mem_cons.mpr ⟨lw_p58, fun _ h => absurd h List.not_mem_nil⟩⟩⟩⟩⟩⟩⟩⟩⟩⟩⟩
def lw_privs : List (MethodName × Nat) := lw_privs_1 ++ (lw_privs_2 ++ (lw_privs_3 ++ (lw_privs_4)))
def lw_tbl : List Cond := k2_sels lw_privs ++ tables_1
theorem lw_privs_ok : ∀ q ∈ lw_privs, lw_okq q := by
  show ∀ q ∈ lw_privs_1 ++ (lw_privs_2 ++ (lw_privs_3 ++ (lw_privs_4))), lw_okq q
  exact List.forall_mem_append.mpr ⟨lw_r1, List.forall_mem_append.mpr ⟨lw_r2, List.forall_mem_append.mpr ⟨lw_r3, lw_r4⟩⟩⟩
def RX0 : String := "HeronsBench$ActRun"
def TX0 : u_T := fun k => match k with
  | 0 => ("HeronsBench$ActRun", "brim", "I", false)
  | 1 => ("HeronsBench$ActRun", "high", "I", false)
  | 2 => ("HeronsBench$ActRun", "low", "I", false)
  | 3 => ("HeronsBench$ActRun", "counted", "I", false)
  | 4 => ("HeronsBench$ActRun", "traced", "I", false)
  | _ => ("HeronsBench$ActRun", "bodies", "[I", true)
def tyX0 : Nat → FieldType := fun k => match k with
  | 0 => .int
  | 1 => .int
  | 2 => .int
  | 3 => .int
  | 4 => .int
  | _ => .array .int
abbrev wsX00 : List Cond := u_ws RX0 TX0 6
theorem nmX0 : ∀ a, a < 6 → ∀ b, b < 6 → a ≠ b → (TX0 a).2.1 ≠ (TX0 b).2.1 := by decide +kernel
theorem tyX0_ok : ∀ k, k < 6 → parseFieldDescriptor (TX0 k).2.2.1 = some (tyX0 k) := by decide +kernel
abbrev cX0_init : ByteArray := prog_2_method_1_code
def yX0_init : MethodName := ⟨RX0, "<init>", "()V"⟩
abbrev cX0_begin : ByteArray := prog_2_method_2_code
def yX0_begin : MethodName := ⟨RX0, "begin", "(LHeronsBench$Plan;LHeronsBench$Water;I)V"⟩
abbrev cX0_began : ByteArray := prog_2_method_3_code
def yX0_began : MethodName := ⟨RX0, "began", "(I)V"⟩
def RX1 : String := "HeronsBench$ClockActs"
def TX1 : u_T := fun k => match k with
  | _ => ("HeronsBench$VesselActs", "run", "LHeronsBench$ActRun;", true)
def tyX1 : Nat → FieldType := fun k => match k with
  | _ => .object "HeronsBench$ActRun"
abbrev wsX10 : List Cond := u_ws RX1 TX1 1
theorem nmX1 : ∀ a, a < 1 → ∀ b, b < 1 → a ≠ b → (TX1 a).2.1 ≠ (TX1 b).2.1 := by decide +kernel
theorem tyX1_ok : ∀ k, k < 1 → parseFieldDescriptor (TX1 k).2.2.1 = some (tyX1 k) := by decide +kernel
abbrev cX1_init : ByteArray := prog_3_method_1_code
def yX1_init : MethodName := ⟨RX1, "<init>", "(LHeronsBench$ActRun;)V"⟩
abbrev cX1_countBody : ByteArray := prog_3_method_2_code
def yX1_countBody : MethodName := ⟨RX1, "countBody", "(I)I"⟩
abbrev cX1_turnBody : ByteArray := prog_3_method_3_code
def yX1_turnBody : MethodName := ⟨RX1, "turnBody", "(I)I"⟩
def RX2 : String := "HeronsBench$FloatActs"
def TX2 : u_T := fun k => match k with
  | _ => ("HeronsBench$VesselActs", "run", "LHeronsBench$ActRun;", true)
def tyX2 : Nat → FieldType := fun k => match k with
  | _ => .object "HeronsBench$ActRun"
abbrev wsX20 : List Cond := u_ws RX2 TX2 1
theorem nmX2 : ∀ a, a < 1 → ∀ b, b < 1 → a ≠ b → (TX2 a).2.1 ≠ (TX2 b).2.1 := by decide +kernel
theorem tyX2_ok : ∀ k, k < 1 → parseFieldDescriptor (TX2 k).2.2.1 = some (tyX2 k) := by decide +kernel
abbrev cX2_init : ByteArray := prog_4_method_1_code
def yX2_init : MethodName := ⟨RX2, "<init>", "(LHeronsBench$ActRun;)V"⟩
abbrev cX2_countBody : ByteArray := prog_4_method_2_code
def yX2_countBody : MethodName := ⟨RX2, "countBody", "(I)I"⟩
abbrev cX2_fillBody : ByteArray := prog_4_method_3_code
def yX2_fillBody : MethodName := ⟨RX2, "fillBody", "(I)I"⟩
def RX3 : String := "HeronsBench$Log"
def TX3 : u_T := fun k => match k with
  | 0 => ("HeronsBench$Log", "came", "I", false)
  | 1 => ("HeronsBench$Log", "kinds", "[I", true)
  | 2 => ("HeronsBench$Log", "vessels", "[I", true)
  | 3 => ("HeronsBench$Log", "aboves", "[I", true)
  | _ => ("HeronsBench$Log", "belows", "[I", true)
def tyX3 : Nat → FieldType := fun k => match k with
  | 0 => .int
  | 1 => .array .int
  | 2 => .array .int
  | 3 => .array .int
  | _ => .array .int
abbrev wsX30 : List Cond := u_ws RX3 TX3 5
theorem nmX3 : ∀ a, a < 5 → ∀ b, b < 5 → a ≠ b → (TX3 a).2.1 ≠ (TX3 b).2.1 := by decide +kernel
theorem tyX3_ok : ∀ k, k < 5 → parseFieldDescriptor (TX3 k).2.2.1 = some (tyX3 k) := by decide +kernel
abbrev cX3_init : ByteArray := prog_5_method_1_code
def yX3_init : MethodName := ⟨RX3, "<init>", "()V"⟩
abbrev cX3_take : ByteArray := prog_5_method_2_code
def yX3_take : MethodName := ⟨RX3, "take", "(LHeronsBench$Works;)V"⟩
abbrev cX3_toldOf : ByteArray := prog_5_method_3_code
def yX3_toldOf : MethodName := ⟨RX3, "toldOf", "(II)I"⟩
def RX4 : String := "HeronsBench$Plan"
def TX4 : u_T := fun k => match k with
  | 0 => ("HeronsBench$Plan", "vessels", "I", false)
  | 1 => ("HeronsBench$Plan", "pipes", "I", false)
  | 2 => ("HeronsBench$Plan", "kinds", "[I", true)
  | 3 => ("HeronsBench$Plan", "brims", "[I", true)
  | 4 => ("HeronsBench$Plan", "highs", "[I", true)
  | 5 => ("HeronsBench$Plan", "lows", "[I", true)
  | 6 => ("HeronsBench$Plan", "owns", "[I", true)
  | 7 => ("HeronsBench$Plan", "tipTos", "[I", true)
  | 8 => ("HeronsBench$Plan", "overTos", "[I", true)
  | 9 => ("HeronsBench$Plan", "froms", "[I", true)
  | _ => ("HeronsBench$Plan", "tos", "[I", true)
def tyX4 : Nat → FieldType := fun k => match k with
  | 0 => .int
  | 1 => .int
  | 2 => .array .int
  | 3 => .array .int
  | 4 => .array .int
  | 5 => .array .int
  | 6 => .array .int
  | 7 => .array .int
  | 8 => .array .int
  | 9 => .array .int
  | _ => .array .int
abbrev wsX40 : List Cond := u_ws RX4 TX4 11
theorem nmX4 : ∀ a, a < 11 → ∀ b, b < 11 → a ≠ b → (TX4 a).2.1 ≠ (TX4 b).2.1 := by decide +kernel
theorem tyX4_ok : ∀ k, k < 11 → parseFieldDescriptor (TX4 k).2.2.1 = some (tyX4 k) := by decide +kernel
abbrev cX4_init : ByteArray := prog_6_method_1_code
def yX4_init : MethodName := ⟨RX4, "<init>", "()V"⟩
abbrev cX4_hasVessel : ByteArray := prog_6_method_2_code
def yX4_hasVessel : MethodName := ⟨RX4, "hasVessel", "(I)Z"⟩
abbrev cX4_hasPipe : ByteArray := prog_6_method_3_code
def yX4_hasPipe : MethodName := ⟨RX4, "hasPipe", "(I)Z"⟩
abbrev cX4_kindOf : ByteArray := prog_6_method_4_code
def yX4_kindOf : MethodName := ⟨RX4, "kindOf", "(I)I"⟩
abbrev cX4_brimOf : ByteArray := prog_6_method_5_code
def yX4_brimOf : MethodName := ⟨RX4, "brimOf", "(I)I"⟩
abbrev cX4_isFloat : ByteArray := prog_6_method_6_code
def yX4_isFloat : MethodName := ⟨RX4, "isFloat", "(I)Z"⟩
abbrev cX4_hasHigh : ByteArray := prog_6_method_7_code
def yX4_hasHigh : MethodName := ⟨RX4, "hasHigh", "(I)Z"⟩
abbrev cX4_liesBelow : ByteArray := prog_6_method_8_code
def yX4_liesBelow : MethodName := ⟨RX4, "liesBelow", "(II)Z"⟩
abbrev cX4_addVessel : ByteArray := prog_6_method_9_code
def yX4_addVessel : MethodName := ⟨RX4, "addVessel", "(II)I"⟩
abbrev cX4_addPipe : ByteArray := prog_6_method_10_code
def yX4_addPipe : MethodName := ⟨RX4, "addPipe", "(II)I"⟩
abbrev cX4_siphonOf : ByteArray := prog_6_method_11_code
def yX4_siphonOf : MethodName := ⟨RX4, "siphonOf", "(I)I"⟩
abbrev cX4_toldOf : ByteArray := prog_6_method_12_code
def yX4_toldOf : MethodName := ⟨RX4, "toldOf", "(II)I"⟩
def RX5 : String := "HeronsBench$Rounds"
def TX5 : u_T := fun k => match k with
  | 0 => ("HeronsBench$Rounds", "grains", "[J", true)
  | 1 => ("HeronsBench$Rounds", "moments", "[J", true)
  | 2 => ("HeronsBench$Rounds", "openPipes", "[I", true)
  | 3 => ("HeronsBench$Rounds", "siphonings", "[I", true)
  | 4 => ("HeronsBench$Rounds", "levels", "[J", true)
  | 5 => ("HeronsBench$Rounds", "beginAbove", "J", false)
  | 6 => ("HeronsBench$Rounds", "beginBelow", "J", false)
  | 7 => ("HeronsBench$Rounds", "spanAbove", "J", false)
  | _ => ("HeronsBench$Rounds", "spanBelow", "J", false)
def tyX5 : Nat → FieldType := fun k => match k with
  | 0 => .array .long
  | 1 => .array .long
  | 2 => .array .int
  | 3 => .array .int
  | 4 => .array .long
  | 5 => .long
  | 6 => .long
  | 7 => .long
  | _ => .long
abbrev wsX50 : List Cond := u_ws RX5 TX5 9
theorem nmX5 : ∀ a, a < 9 → ∀ b, b < 9 → a ≠ b → (TX5 a).2.1 ≠ (TX5 b).2.1 := by decide +kernel
theorem tyX5_ok : ∀ k, k < 9 → parseFieldDescriptor (TX5 k).2.2.1 = some (tyX5 k) := by decide +kernel
abbrev cX5_init : ByteArray := prog_7_method_1_code
def yX5_init : MethodName := ⟨RX5, "<init>", "()V"⟩
abbrev cX5_seek : ByteArray := prog_7_method_2_code
def yX5_seek : MethodName := ⟨RX5, "seek", "(LHeronsBench$Works;)I"⟩
abbrev cX5_toldOf : ByteArray := prog_7_method_3_code
def yX5_toldOf : MethodName := ⟨RX5, "toldOf", "(I)I"⟩
abbrev cX5_keep : ByteArray := prog_7_method_4_code
def yX5_keep : MethodName := ⟨RX5, "keep", "(ILHeronsBench$Water;)V"⟩
abbrev cX5_firstLike : ByteArray := prog_7_method_5_code
def yX5_firstLike : MethodName := ⟨RX5, "firstLike", "(LHeronsBench$Water;I)I"⟩
abbrev cX5_isLike : ByteArray := prog_7_method_6_code
def yX5_isLike : MethodName := ⟨RX5, "isLike", "(ILHeronsBench$Water;)Z"⟩
abbrev cX5_tell : ByteArray := prog_7_method_7_code
def yX5_tell : MethodName := ⟨RX5, "tell", "(ILHeronsBench$Water;)V"⟩
def RX6 : String := "HeronsBench$SiphonActs"
def TX6 : u_T := fun k => match k with
  | _ => ("HeronsBench$VesselActs", "run", "LHeronsBench$ActRun;", true)
def tyX6 : Nat → FieldType := fun k => match k with
  | _ => .object "HeronsBench$ActRun"
abbrev wsX60 : List Cond := u_ws RX6 TX6 1
theorem nmX6 : ∀ a, a < 1 → ∀ b, b < 1 → a ≠ b → (TX6 a).2.1 ≠ (TX6 b).2.1 := by decide +kernel
theorem tyX6_ok : ∀ k, k < 1 → parseFieldDescriptor (TX6 k).2.2.1 = some (tyX6 k) := by decide +kernel
abbrev cX6_init : ByteArray := prog_8_method_1_code
def yX6_init : MethodName := ⟨RX6, "<init>", "(LHeronsBench$ActRun;)V"⟩
abbrev cX6_turnBody : ByteArray := prog_8_method_2_code
def yX6_turnBody : MethodName := ⟨RX6, "turnBody", "(I)I"⟩
abbrev cX6_tellBody : ByteArray := prog_8_method_3_code
def yX6_tellBody : MethodName := ⟨RX6, "tellBody", "(I)I"⟩
def RX7 : String := "HeronsBench$TipperActs"
def TX7 : u_T := fun k => match k with
  | _ => ("HeronsBench$VesselActs", "run", "LHeronsBench$ActRun;", true)
def tyX7 : Nat → FieldType := fun k => match k with
  | _ => .object "HeronsBench$ActRun"
abbrev wsX70 : List Cond := u_ws RX7 TX7 1
theorem nmX7 : ∀ a, a < 1 → ∀ b, b < 1 → a ≠ b → (TX7 a).2.1 ≠ (TX7 b).2.1 := by decide +kernel
theorem tyX7_ok : ∀ k, k < 1 → parseFieldDescriptor (TX7 k).2.2.1 = some (tyX7 k) := by decide +kernel
abbrev cX7_init : ByteArray := prog_9_method_1_code
def yX7_init : MethodName := ⟨RX7, "<init>", "(LHeronsBench$ActRun;)V"⟩
abbrev cX7_fillBody : ByteArray := prog_9_method_2_code
def yX7_fillBody : MethodName := ⟨RX7, "fillBody", "(I)I"⟩
def RX8 : String := "HeronsBench$VesselActs"
def TX8 : u_T := fun k => match k with
  | _ => ("HeronsBench$VesselActs", "run", "LHeronsBench$ActRun;", true)
def tyX8 : Nat → FieldType := fun k => match k with
  | _ => .object "HeronsBench$ActRun"
abbrev wsX80 : List Cond := u_ws RX8 TX8 1
theorem nmX8 : ∀ a, a < 1 → ∀ b, b < 1 → a ≠ b → (TX8 a).2.1 ≠ (TX8 b).2.1 := by decide +kernel
theorem tyX8_ok : ∀ k, k < 1 → parseFieldDescriptor (TX8 k).2.2.1 = some (tyX8 k) := by decide +kernel
abbrev cX8_init : ByteArray := prog_10_method_1_code
def yX8_init : MethodName := ⟨RX8, "<init>", "(LHeronsBench$ActRun;)V"⟩
abbrev cX8_fillBody : ByteArray := prog_10_method_2_code
def yX8_fillBody : MethodName := ⟨RX8, "fillBody", "(I)I"⟩
abbrev cX8_turnBody : ByteArray := prog_10_method_3_code
def yX8_turnBody : MethodName := ⟨RX8, "turnBody", "(I)I"⟩
abbrev cX8_countBody : ByteArray := prog_10_method_4_code
def yX8_countBody : MethodName := ⟨RX8, "countBody", "(I)I"⟩
abbrev cX8_tellBody : ByteArray := prog_10_method_5_code
def yX8_tellBody : MethodName := ⟨RX8, "tellBody", "(I)I"⟩
def RX9 : String := "HeronsBench$Water"
def TX9 : u_T := fun k => match k with
  | 0 => ("HeronsBench$Water", "grain", "J", false)
  | 1 => ("HeronsBench$Water", "moment", "J", false)
  | 2 => ("HeronsBench$Water", "spring", "J", false)
  | 3 => ("HeronsBench$Water", "drain", "J", false)
  | 4 => ("HeronsBench$Water", "byHand", "J", false)
  | 5 => ("HeronsBench$Water", "openPipes", "I", false)
  | 6 => ("HeronsBench$Water", "siphoning", "I", false)
  | 7 => ("HeronsBench$Water", "levels", "[J", true)
  | 8 => ("HeronsBench$Water", "counted", "[I", true)
  | _ => ("HeronsBench$Water", "amounts", "[I", true)
def tyX9 : Nat → FieldType := fun k => match k with
  | 0 => .long
  | 1 => .long
  | 2 => .long
  | 3 => .long
  | 4 => .long
  | 5 => .int
  | 6 => .int
  | 7 => .array .long
  | 8 => .array .int
  | _ => .array .int
abbrev wsX90 : List Cond := u_ws RX9 TX9 10
theorem nmX9 : ∀ a, a < 10 → ∀ b, b < 10 → a ≠ b → (TX9 a).2.1 ≠ (TX9 b).2.1 := by decide +kernel
theorem tyX9_ok : ∀ k, k < 10 → parseFieldDescriptor (TX9 k).2.2.1 = some (tyX9 k) := by decide +kernel
abbrev cX9_init : ByteArray := prog_11_method_1_code
def yX9_init : MethodName := ⟨RX9, "<init>", "()V"⟩
abbrev cX9_takeOver : ByteArray := prog_11_method_2_code
def yX9_takeOver : MethodName := ⟨RX9, "takeOver", "(LHeronsBench$Water;)V"⟩
abbrev cX9_isOpen : ByteArray := prog_11_method_3_code
def yX9_isOpen : MethodName := ⟨RX9, "isOpen", "(I)Z"⟩
abbrev cX9_setOpen : ByteArray := prog_11_method_4_code
def yX9_setOpen : MethodName := ⟨RX9, "setOpen", "(IZ)V"⟩
abbrev cX9_isSiphoning : ByteArray := prog_11_method_5_code
def yX9_isSiphoning : MethodName := ⟨RX9, "isSiphoning", "(I)Z"⟩
abbrev cX9_setSiphoning : ByteArray := prog_11_method_6_code
def yX9_setSiphoning : MethodName := ⟨RX9, "setSiphoning", "(IZ)V"⟩
def RX10 : String := "HeronsBench$Works"
def TX10 : u_T := fun k => match k with
  | 0 => ("HeronsBench$Works", "plan", "LHeronsBench$Plan;", true)
  | 1 => ("HeronsBench$Works", "water", "LHeronsBench$Water;", true)
  | 2 => ("HeronsBench$Works", "ins", "[I", true)
  | 3 => ("HeronsBench$Works", "changes", "[I", true)
  | 4 => ("HeronsBench$Works", "floods", "[I", true)
  | 5 => ("HeronsBench$Works", "flows", "[I", true)
  | 6 => ("HeronsBench$Works", "springRate", "I", false)
  | 7 => ("HeronsBench$Works", "drainRate", "I", false)
  | 8 => ("HeronsBench$Works", "gap", "J", false)
  | 9 => ("HeronsBench$Works", "speed", "J", false)
  | 10 => ("HeronsBench$Works", "happenedKinds", "[I", true)
  | 11 => ("HeronsBench$Works", "happenedVessels", "[I", true)
  | _ => ("HeronsBench$Works", "happened", "I", false)
def tyX10 : Nat → FieldType := fun k => match k with
  | 0 => .object "HeronsBench$Plan"
  | 1 => .object "HeronsBench$Water"
  | 2 => .array .int
  | 3 => .array .int
  | 4 => .array .int
  | 5 => .array .int
  | 6 => .int
  | 7 => .int
  | 8 => .long
  | 9 => .long
  | 10 => .array .int
  | 11 => .array .int
  | _ => .int
abbrev wsX100 : List Cond := u_ws RX10 TX10 13
theorem nmX10 : ∀ a, a < 13 → ∀ b, b < 13 → a ≠ b → (TX10 a).2.1 ≠ (TX10 b).2.1 := by decide +kernel
theorem tyX10_ok : ∀ k, k < 13 → parseFieldDescriptor (TX10 k).2.2.1 = some (tyX10 k) := by decide +kernel
abbrev cX10_init : ByteArray := prog_12_method_1_code
def yX10_init : MethodName := ⟨RX10, "<init>", "(LHeronsBench$Plan;)V"⟩
abbrev cX10_runs : ByteArray := prog_12_method_2_code
def yX10_runs : MethodName := ⟨RX10, "runs", "(I)Z"⟩
abbrev cX10_reckonRates : ByteArray := prog_12_method_3_code
def yX10_reckonRates : MethodName := ⟨RX10, "reckonRates", "()V"⟩
abbrev cX10_reckonVessel : ByteArray := prog_12_method_4_code
def yX10_reckonVessel : MethodName := ⟨RX10, "reckonVessel", "(I)V"⟩
abbrev cX10_bring : ByteArray := prog_12_method_5_code
def yX10_bring : MethodName := ⟨RX10, "bring", "(II)V"⟩
abbrev cX10_isFull : ByteArray := prog_12_method_6_code
def yX10_isFull : MethodName := ⟨RX10, "isFull", "(I)Z"⟩
abbrev cX10_seekNext : ByteArray := prog_12_method_7_code
def yX10_seekNext : MethodName := ⟨RX10, "seekNext", "()V"⟩
abbrev cX10_seekRise : ByteArray := prog_12_method_8_code
def yX10_seekRise : MethodName := ⟨RX10, "seekRise", "(I)V"⟩
abbrev cX10_seekFall : ByteArray := prog_12_method_9_code
def yX10_seekFall : MethodName := ⟨RX10, "seekFall", "(I)V"⟩
abbrev cX10_ownIs : ByteArray := prog_12_method_10_code
def yX10_ownIs : MethodName := ⟨RX10, "ownIs", "(IZ)Z"⟩
abbrev cX10_offer : ByteArray := prog_12_method_11_code
def yX10_offer : MethodName := ⟨RX10, "offer", "(JJ)V"⟩
abbrev cX10_rests : ByteArray := prog_12_method_12_code
def yX10_rests : MethodName := ⟨RX10, "rests", "()Z"⟩
abbrev cX10_nextMomentAbove : ByteArray := prog_12_method_13_code
def yX10_nextMomentAbove : MethodName := ⟨RX10, "nextMomentAbove", "()J"⟩
abbrev cX10_nextMomentBelow : ByteArray := prog_12_method_14_code
def yX10_nextMomentBelow : MethodName := ⟨RX10, "nextMomentBelow", "()J"⟩
abbrev cX10_nextIsBehind : ByteArray := prog_12_method_15_code
def yX10_nextIsBehind : MethodName := ⟨RX10, "nextIsBehind", "(I)Z"⟩
abbrev cX10_isBehind : ByteArray := prog_12_method_16_code
def yX10_isBehind : MethodName := ⟨RX10, "isBehind", "(I)Z"⟩
abbrev cX10_isAt : ByteArray := prog_12_method_17_code
def yX10_isAt : MethodName := ⟨RX10, "isAt", "(I)Z"⟩
abbrev cX10_isAhead : ByteArray := prog_12_method_18_code
def yX10_isAhead : MethodName := ⟨RX10, "isAhead", "(I)Z"⟩
abbrev cX10_inVessels : ByteArray := prog_12_method_19_code
def yX10_inVessels : MethodName := ⟨RX10, "inVessels", "()J"⟩
abbrev cX10_step : ByteArray := prog_12_method_20_code
def yX10_step : MethodName := ⟨RX10, "step", "()Z"⟩
abbrev cX10_passTo : ByteArray := prog_12_method_21_code
def yX10_passTo : MethodName := ⟨RX10, "passTo", "(I)V"⟩
abbrev cX10_advance : ByteArray := prog_12_method_22_code
def yX10_advance : MethodName := ⟨RX10, "advance", "(JJ)Z"⟩
abbrev cX10_commonBehind : ByteArray := prog_12_method_23_code
def yX10_commonBehind : MethodName := ⟨RX10, "commonBehind", "(JJJ)J"⟩
abbrev cX10_settle : ByteArray := prog_12_method_24_code
def yX10_settle : MethodName := ⟨RX10, "settle", "()V"⟩
abbrev cX10_tip : ByteArray := prog_12_method_25_code
def yX10_tip : MethodName := ⟨RX10, "tip", "(I)V"⟩
abbrev cX10_pourTo : ByteArray := prog_12_method_26_code
def yX10_pourTo : MethodName := ⟨RX10, "pourTo", "(IJ)V"⟩
abbrev cX10_settleSiphon : ByteArray := prog_12_method_27_code
def yX10_settleSiphon : MethodName := ⟨RX10, "settleSiphon", "(I)V"⟩
abbrev cX10_settleFloat : ByteArray := prog_12_method_28_code
def yX10_settleFloat : MethodName := ⟨RX10, "settleFloat", "(I)V"⟩
abbrev cX10_happen : ByteArray := prog_12_method_29_code
def yX10_happen : MethodName := ⟨RX10, "happen", "(II)V"⟩
abbrev cX10_hasHappened : ByteArray := prog_12_method_30_code
def yX10_hasHappened : MethodName := ⟨RX10, "hasHappened", "(II)Z"⟩
def RX11 : String := "HeronsBench"
def TX11 : u_T := fun k => match k with
  | 0 => ("HeronsBench", "plan", "LHeronsBench$Plan;", true)
  | 1 => ("HeronsBench", "live", "LHeronsBench$Works;", true)
  | 2 => ("HeronsBench", "trial", "LHeronsBench$Works;", true)
  | 3 => ("HeronsBench", "log", "LHeronsBench$Log;", true)
  | 4 => ("HeronsBench", "rounds", "LHeronsBench$Rounds;", true)
  | 5 => ("HeronsBench", "actRun", "LHeronsBench$ActRun;", true)
  | 6 => ("HeronsBench", "actsByKind", "[LHeronsBench$VesselActs;", true)
  | _ => ("HeronsBench", "statusNow", "I", false)
def tyX11 : Nat → FieldType := fun k => match k with
  | 0 => .object "HeronsBench$Plan"
  | 1 => .object "HeronsBench$Works"
  | 2 => .object "HeronsBench$Works"
  | 3 => .object "HeronsBench$Log"
  | 4 => .object "HeronsBench$Rounds"
  | 5 => .object "HeronsBench$ActRun"
  | 6 => .array (.object "HeronsBench$VesselActs")
  | _ => .int
abbrev wsX110 : List Cond := u_ws RX11 TX11 8
theorem nmX11 : ∀ a, a < 8 → ∀ b, b < 8 → a ≠ b → (TX11 a).2.1 ≠ (TX11 b).2.1 := by decide +kernel
theorem tyX11_ok : ∀ k, k < 8 → parseFieldDescriptor (TX11 k).2.2.1 = some (tyX11 k) := by decide +kernel
abbrev cX11_init : ByteArray := prog_1_method_1_code
def yX11_init : MethodName := ⟨RX11, "<init>", "()V"⟩
abbrev cX11_vessel : ByteArray := prog_1_method_2_code
def yX11_vessel : MethodName := ⟨RX11, "vessel", "(II)I"⟩
abbrev cX11_marks : ByteArray := prog_1_method_3_code
def yX11_marks : MethodName := ⟨RX11, "marks", "(III)I"⟩
abbrev cX11_own : ByteArray := prog_1_method_4_code
def yX11_own : MethodName := ⟨RX11, "own", "(II)I"⟩
abbrev cX11_tips : ByteArray := prog_1_method_5_code
def yX11_tips : MethodName := ⟨RX11, "tips", "(II)I"⟩
abbrev cX11_over : ByteArray := prog_1_method_6_code
def yX11_over : MethodName := ⟨RX11, "over", "(II)I"⟩
abbrev cX11_pipe : ByteArray := prog_1_method_7_code
def yX11_pipe : MethodName := ⟨RX11, "pipe", "(III)I"⟩
abbrev cX11_fill : ByteArray := prog_1_method_8_code
def yX11_fill : MethodName := ⟨RX11, "fill", "(II)I"⟩
abbrev cX11_shut : ByteArray := prog_1_method_9_code
def yX11_shut : MethodName := ⟨RX11, "shut", "(IZ)I"⟩
abbrev cX11_amount : ByteArray := prog_1_method_10_code
def yX11_amount : MethodName := ⟨RX11, "amount", "(II)I"⟩
abbrev cX11_go : ByteArray := prog_1_method_11_code
def yX11_go : MethodName := ⟨RX11, "go", "(I)I"⟩
abbrev cX11_now : ByteArray := prog_1_method_12_code
def yX11_now : MethodName := ⟨RX11, "now", "(I)I"⟩
abbrev cX11_next : ByteArray := prog_1_method_13_code
def yX11_next : MethodName := ⟨RX11, "next", "(I)J"⟩
abbrev cX11_level : ByteArray := prog_1_method_14_code
def yX11_level : MethodName := ⟨RX11, "level", "(II)I"⟩
abbrev cX11_rate : ByteArray := prog_1_method_15_code
def yX11_rate : MethodName := ⟨RX11, "rate", "(I)I"⟩
abbrev cX11_flow : ByteArray := prog_1_method_16_code
def yX11_flow : MethodName := ⟨RX11, "flow", "(I)I"⟩
abbrev cX11_flood : ByteArray := prog_1_method_17_code
def yX11_flood : MethodName := ⟨RX11, "flood", "(I)I"⟩
abbrev cX11_told : ByteArray := prog_1_method_18_code
def yX11_told : MethodName := ⟨RX11, "told", "(II)I"⟩
abbrev cX11_pipeTold : ByteArray := prog_1_method_19_code
def yX11_pipeTold : MethodName := ⟨RX11, "pipeTold", "(II)I"⟩
abbrev cX11_count : ByteArray := prog_1_method_20_code
def yX11_count : MethodName := ⟨RX11, "count", "(I)I"⟩
abbrev cX11_event : ByteArray := prog_1_method_21_code
def yX11_event : MethodName := ⟨RX11, "event", "(II)I"⟩
abbrev cX11_sum : ByteArray := prog_1_method_22_code
def yX11_sum : MethodName := ⟨RX11, "sum", "(I)J"⟩
abbrev cX11_round : ByteArray := prog_1_method_23_code
def yX11_round : MethodName := ⟨RX11, "round", "(I)I"⟩
abbrev cX11_tune : ByteArray := prog_1_method_24_code
def yX11_tune : MethodName := ⟨RX11, "tune", "(IIIII)I"⟩
abbrev cX11_act : ByteArray := prog_1_method_25_code
def yX11_act : MethodName := ⟨RX11, "act", "(III)I"⟩
abbrev cX11_trace : ByteArray := prog_1_method_26_code
def yX11_trace : MethodName := ⟨RX11, "trace", "(I)I"⟩
abbrev cX11_forge : ByteArray := prog_1_method_27_code
def yX11_forge : MethodName := ⟨RX11, "forge", "(III)I"⟩
abbrev cX11_status : ByteArray := prog_1_method_28_code
def yX11_status : MethodName := ⟨RX11, "status", "()I"⟩
abbrev cX11_refused : ByteArray := prog_1_method_29_code
def yX11_refused : MethodName := ⟨RX11, "refused", "(I)I"⟩
abbrev cX11_answered : ByteArray := prog_1_method_30_code
def yX11_answered : MethodName := ⟨RX11, "answered", "(I)I"⟩
abbrev cX11_handDid : ByteArray := prog_1_method_31_code
def yX11_handDid : MethodName := ⟨RX11, "handDid", "(I)I"⟩
abbrev cX11_firstShutsAt : ByteArray := prog_1_method_32_code
def yX11_firstShutsAt : MethodName := ⟨RX11, "firstShutsAt", "(II)Z"⟩
abbrev cX11_takenFor : ByteArray := prog_1_method_33_code
def yX11_takenFor : MethodName := ⟨RX11, "takenFor", "(II)I"⟩
abbrev cX11_copiedBrims : ByteArray := prog_1_method_34_code
def yX11_copiedBrims : MethodName := ⟨RX11, "copiedBrims", "(II)I"⟩
abbrev cX11_putAmongFloats : ByteArray := prog_1_method_35_code
def yX11_putAmongFloats : MethodName := ⟨RX11, "putAmongFloats", "(I)I"⟩
abbrev cX11_within : ByteArray := prog_1_method_36_code
def yX11_within : MethodName := ⟨RX11, "within", "(III)Z"⟩
abbrev cX11_asNumber : ByteArray := prog_1_method_37_code
def yX11_asNumber : MethodName := ⟨RX11, "asNumber", "(Z)I"⟩
abbrev cX11_isKindOrUnder : ByteArray := prog_1_method_38_code
def yX11_isKindOrUnder : MethodName := ⟨RX11, "isKindOrUnder", "(II)Z"⟩
abbrev cX11_gcd : ByteArray := prog_1_method_39_code
def yX11_gcd : MethodName := ⟨RX11, "gcd", "(JJ)J"⟩
abbrev cX11_above : ByteArray := prog_1_method_40_code
def yX11_above : MethodName := ⟨RX11, "above", "(JJ)J"⟩
abbrev cX11_below : ByteArray := prog_1_method_41_code
def yX11_below : MethodName := ⟨RX11, "below", "(JJ)J"⟩
abbrev cX11_part : ByteArray := prog_1_method_42_code
def yX11_part : MethodName := ⟨RX11, "part", "(JJI)J"⟩
def RX12 : String := "HeronsBenchModel"
def TX12 : u_T := fun k => match k with
  | 0 => ("HeronsBenchModel", "vessels", "I", false)
  | 1 => ("HeronsBenchModel", "kind", "[I", true)
  | 2 => ("HeronsBenchModel", "brim", "[I", true)
  | 3 => ("HeronsBenchModel", "high", "[I", true)
  | 4 => ("HeronsBenchModel", "low", "[I", true)
  | 5 => ("HeronsBenchModel", "own", "[I", true)
  | 6 => ("HeronsBenchModel", "tip", "[I", true)
  | 7 => ("HeronsBenchModel", "over", "[I", true)
  | 8 => ("HeronsBenchModel", "pipes", "I", false)
  | 9 => ("HeronsBenchModel", "from", "[I", true)
  | 10 => ("HeronsBenchModel", "to", "[I", true)
  | 11 => ("HeronsBenchModel", "amount", "[I", true)
  | 12 => ("HeronsBenchModel", "grain", "J", false)
  | 13 => ("HeronsBenchModel", "time", "J", false)
  | 14 => ("HeronsBenchModel", "spring", "J", false)
  | 15 => ("HeronsBenchModel", "drain", "J", false)
  | 16 => ("HeronsBenchModel", "level", "[J", true)
  | 17 => ("HeronsBenchModel", "isOpen", "[Z", true)
  | 18 => ("HeronsBenchModel", "isSiphoning", "[Z", true)
  | 19 => ("HeronsBenchModel", "counted", "[I", true)
  | 20 => ("HeronsBenchModel", "events", "I", false)
  | 21 => ("HeronsBenchModel", "hands", "J", false)
  | 22 => ("HeronsBenchModel", "records", "Z", false)
  | 23 => ("HeronsBenchModel", "eventKind", "[I", true)
  | 24 => ("HeronsBenchModel", "eventVessel", "[I", true)
  | 25 => ("HeronsBenchModel", "eventTime", "[J", true)
  | 26 => ("HeronsBenchModel", "eventGrain", "[J", true)
  | 27 => ("HeronsBenchModel", "status", "I", false)
  | 28 => ("HeronsBenchModel", "traced", "[I", true)
  | 29 => ("HeronsBenchModel", "traces", "I", false)
  | 30 => ("HeronsBenchModel", "came", "[I", true)
  | 31 => ("HeronsBenchModel", "change", "[I", true)
  | 32 => ("HeronsBenchModel", "floods", "[I", true)
  | 33 => ("HeronsBenchModel", "flows", "[I", true)
  | 34 => ("HeronsBenchModel", "springRate", "I", false)
  | 35 => ("HeronsBenchModel", "drainRate", "I", false)
  | 36 => ("HeronsBenchModel", "nextAbove", "J", false)
  | 37 => ("HeronsBenchModel", "nextBelow", "J", false)
  | 38 => ("HeronsBenchModel", "isRest", "Z", false)
  | 39 => ("HeronsBenchModel", "common", "J", false)
  | 40 => ("HeronsBenchModel", "then", "[J", true)
  | 41 => ("HeronsBenchModel", "sought", "I", false)
  | 42 => ("HeronsBenchModel", "soughtShut", "Z", false)
  | 43 => ("HeronsBenchModel", "keptGrain", "J", false)
  | 44 => ("HeronsBenchModel", "keptTime", "J", false)
  | 45 => ("HeronsBenchModel", "keptSpring", "J", false)
  | 46 => ("HeronsBenchModel", "keptDrain", "J", false)
  | 47 => ("HeronsBenchModel", "keptEvents", "I", false)
  | 48 => ("HeronsBenchModel", "keptLevel", "[J", true)
  | 49 => ("HeronsBenchModel", "keptOpen", "[Z", true)
  | 50 => ("HeronsBenchModel", "keptSiphoning", "[Z", true)
  | 51 => ("HeronsBenchModel", "keptCounted", "[I", true)
  | 52 => ("HeronsBenchModel", "states", "[J", true)
  | 53 => ("HeronsBenchModel", "roundFrom", "I", false)
  | _ => ("HeronsBenchModel", "roundTo", "I", false)
def tyX12 : Nat → FieldType := fun k => match k with
  | 0 => .int
  | 1 => .array .int
  | 2 => .array .int
  | 3 => .array .int
  | 4 => .array .int
  | 5 => .array .int
  | 6 => .array .int
  | 7 => .array .int
  | 8 => .int
  | 9 => .array .int
  | 10 => .array .int
  | 11 => .array .int
  | 12 => .long
  | 13 => .long
  | 14 => .long
  | 15 => .long
  | 16 => .array .long
  | 17 => .array .boolean
  | 18 => .array .boolean
  | 19 => .array .int
  | 20 => .int
  | 21 => .long
  | 22 => .boolean
  | 23 => .array .int
  | 24 => .array .int
  | 25 => .array .long
  | 26 => .array .long
  | 27 => .int
  | 28 => .array .int
  | 29 => .int
  | 30 => .array .int
  | 31 => .array .int
  | 32 => .array .int
  | 33 => .array .int
  | 34 => .int
  | 35 => .int
  | 36 => .long
  | 37 => .long
  | 38 => .boolean
  | 39 => .long
  | 40 => .array .long
  | 41 => .int
  | 42 => .boolean
  | 43 => .long
  | 44 => .long
  | 45 => .long
  | 46 => .long
  | 47 => .int
  | 48 => .array .long
  | 49 => .array .boolean
  | 50 => .array .boolean
  | 51 => .array .int
  | 52 => .array .long
  | 53 => .int
  | _ => .int
abbrev wsX120 : List Cond := u_ws RX12 TX12 55
theorem nmX12 : ∀ a, a < 55 → ∀ b, b < 55 → a ≠ b → (TX12 a).2.1 ≠ (TX12 b).2.1 := by decide +kernel
theorem tyX12_ok : ∀ k, k < 55 → parseFieldDescriptor (TX12 k).2.2.1 = some (tyX12 k) := by decide +kernel
abbrev cX12_init : ByteArray := prog_14_method_1_code
def yX12_init : MethodName := ⟨RX12, "<init>", "()V"⟩
abbrev cX12_in : ByteArray := prog_14_method_2_code
def yX12_in : MethodName := ⟨RX12, "in", "(III)Z"⟩
abbrev cX12_refused : ByteArray := prog_14_method_3_code
def yX12_refused : MethodName := ⟨RX12, "refused", "(I)I"⟩
abbrev cX12_done : ByteArray := prog_14_method_4_code
def yX12_done : MethodName := ⟨RX12, "done", "(I)I"⟩
abbrev cX12_isVessel : ByteArray := prog_14_method_5_code
def yX12_isVessel : MethodName := ⟨RX12, "isVessel", "(I)Z"⟩
abbrev cX12_isPipe : ByteArray := prog_14_method_6_code
def yX12_isPipe : MethodName := ⟨RX12, "isPipe", "(I)Z"⟩
abbrev cX12_divisor : ByteArray := prog_14_method_7_code
def yX12_divisor : MethodName := ⟨RX12, "divisor", "(JJ)J"⟩
abbrev cX12_isFloat : ByteArray := prog_14_method_8_code
def yX12_isFloat : MethodName := ⟨RX12, "isFloat", "(I)Z"⟩
abbrev cX12_runs : ByteArray := prog_14_method_9_code
def yX12_runs : MethodName := ⟨RX12, "runs", "(I)Z"⟩
abbrev cX12_goesTo : ByteArray := prog_14_method_10_code
def yX12_goesTo : MethodName := ⟨RX12, "goesTo", "(II)V"⟩
abbrev cX12_rates : ByteArray := prog_14_method_11_code
def yX12_rates : MethodName := ⟨RX12, "rates", "()V"⟩
abbrev cX12_rateOf : ByteArray := prog_14_method_12_code
def yX12_rateOf : MethodName := ⟨RX12, "rateOf", "(I)V"⟩
abbrev cX12_may : ByteArray := prog_14_method_13_code
def yX12_may : MethodName := ⟨RX12, "may", "(JI)V"⟩
abbrev cX12_seek : ByteArray := prog_14_method_14_code
def yX12_seek : MethodName := ⟨RX12, "seek", "()V"⟩
abbrev cX12_moved : ByteArray := prog_14_method_15_code
def yX12_moved : MethodName := ⟨RX12, "moved", "(JJJJJ)J"⟩
abbrev cX12_passes : ByteArray := prog_14_method_16_code
def yX12_passes : MethodName := ⟨RX12, "passes", "(JJ)Z"⟩
abbrev cX12_lowest : ByteArray := prog_14_method_17_code
def yX12_lowest : MethodName := ⟨RX12, "lowest", "()V"⟩
abbrev cX12_pour : ByteArray := prog_14_method_18_code
def yX12_pour : MethodName := ⟨RX12, "pour", "(IJ)V"⟩
abbrev cX12_note : ByteArray := prog_14_method_19_code
def yX12_note : MethodName := ⟨RX12, "note", "(II)V"⟩
abbrev cX12_moment : ByteArray := prog_14_method_20_code
def yX12_moment : MethodName := ⟨RX12, "moment", "()V"⟩
abbrev cX12_floats : ByteArray := prog_14_method_21_code
def yX12_floats : MethodName := ⟨RX12, "floats", "(I)V"⟩
abbrev cX12_hand : ByteArray := prog_14_method_22_code
def yX12_hand : MethodName := ⟨RX12, "hand", "(I)I"⟩
abbrev cX12_vessel : ByteArray := prog_14_method_23_code
def yX12_vessel : MethodName := ⟨RX12, "vessel", "(II)I"⟩
abbrev cX12_marks : ByteArray := prog_14_method_24_code
def yX12_marks : MethodName := ⟨RX12, "marks", "(III)I"⟩
abbrev cX12_own : ByteArray := prog_14_method_25_code
def yX12_own : MethodName := ⟨RX12, "own", "(II)I"⟩
abbrev cX12_isBehind : ByteArray := prog_14_method_26_code
def yX12_isBehind : MethodName := ⟨RX12, "isBehind", "(II)Z"⟩
abbrev cX12_tips : ByteArray := prog_14_method_27_code
def yX12_tips : MethodName := ⟨RX12, "tips", "(II)I"⟩
abbrev cX12_over : ByteArray := prog_14_method_28_code
def yX12_over : MethodName := ⟨RX12, "over", "(II)I"⟩
abbrev cX12_pipe : ByteArray := prog_14_method_29_code
def yX12_pipe : MethodName := ⟨RX12, "pipe", "(III)I"⟩
abbrev cX12_fill : ByteArray := prog_14_method_30_code
def yX12_fill : MethodName := ⟨RX12, "fill", "(II)I"⟩
abbrev cX12_shut : ByteArray := prog_14_method_31_code
def yX12_shut : MethodName := ⟨RX12, "shut", "(IZ)I"⟩
abbrev cX12_amount : ByteArray := prog_14_method_32_code
def yX12_amount : MethodName := ⟨RX12, "amount", "(II)I"⟩
abbrev cX12_step : ByteArray := prog_14_method_33_code
def yX12_step : MethodName := ⟨RX12, "step", "(J)I"⟩
abbrev cX12_go : ByteArray := prog_14_method_34_code
def yX12_go : MethodName := ⟨RX12, "go", "(I)I"⟩
abbrev cX12_part : ByteArray := prog_14_method_35_code
def yX12_part : MethodName := ⟨RX12, "part", "(JJI)J"⟩
abbrev cX12_now : ByteArray := prog_14_method_36_code
def yX12_now : MethodName := ⟨RX12, "now", "(I)I"⟩
abbrev cX12_next : ByteArray := prog_14_method_37_code
def yX12_next : MethodName := ⟨RX12, "next", "(I)J"⟩
abbrev cX12_level : ByteArray := prog_14_method_38_code
def yX12_level : MethodName := ⟨RX12, "level", "(II)I"⟩
abbrev cX12_rate : ByteArray := prog_14_method_39_code
def yX12_rate : MethodName := ⟨RX12, "rate", "(I)I"⟩
abbrev cX12_flow : ByteArray := prog_14_method_40_code
def yX12_flow : MethodName := ⟨RX12, "flow", "(I)I"⟩
abbrev cX12_flood : ByteArray := prog_14_method_41_code
def yX12_flood : MethodName := ⟨RX12, "flood", "(I)I"⟩
abbrev cX12_told : ByteArray := prog_14_method_42_code
def yX12_told : MethodName := ⟨RX12, "told", "(II)I"⟩
abbrev cX12_pipeTold : ByteArray := prog_14_method_43_code
def yX12_pipeTold : MethodName := ⟨RX12, "pipeTold", "(II)I"⟩
abbrev cX12_count : ByteArray := prog_14_method_44_code
def yX12_count : MethodName := ⟨RX12, "count", "(I)I"⟩
abbrev cX12_event : ByteArray := prog_14_method_45_code
def yX12_event : MethodName := ⟨RX12, "event", "(II)I"⟩
abbrev cX12_sum : ByteArray := prog_14_method_46_code
def yX12_sum : MethodName := ⟨RX12, "sum", "(I)J"⟩
abbrev cX12_keep : ByteArray := prog_14_method_47_code
def yX12_keep : MethodName := ⟨RX12, "keep", "()V"⟩
abbrev cX12_back : ByteArray := prog_14_method_48_code
def yX12_back : MethodName := ⟨RX12, "back", "()V"⟩
abbrev cX12_put : ByteArray := prog_14_method_49_code
def yX12_put : MethodName := ⟨RX12, "put", "(I)V"⟩
abbrev cX12_isSame : ByteArray := prog_14_method_50_code
def yX12_isSame : MethodName := ⟨RX12, "isSame", "(II)Z"⟩
abbrev cX12_seekRound : ByteArray := prog_14_method_51_code
def yX12_seekRound : MethodName := ⟨RX12, "seekRound", "()I"⟩
abbrev cX12_round : ByteArray := prog_14_method_52_code
def yX12_round : MethodName := ⟨RX12, "round", "(I)I"⟩
abbrev cX12_shutsAt : ByteArray := prog_14_method_53_code
def yX12_shutsAt : MethodName := ⟨RX12, "shutsAt", "(I)Z"⟩
abbrev cX12_tune : ByteArray := prog_14_method_54_code
def yX12_tune : MethodName := ⟨RX12, "tune", "(IIIII)I"⟩
abbrev cX12_ran : ByteArray := prog_14_method_55_code
def yX12_ran : MethodName := ⟨RX12, "ran", "(I)V"⟩
abbrev cX12_vesselFill : ByteArray := prog_14_method_56_code
def yX12_vesselFill : MethodName := ⟨RX12, "vesselFill", "(II)I"⟩
abbrev cX12_fill0 : ByteArray := prog_14_method_57_code
def yX12_fill0 : MethodName := ⟨RX12, "fill0", "(II)I"⟩
abbrev cX12_vesselTurn : ByteArray := prog_14_method_58_code
def yX12_vesselTurn : MethodName := ⟨RX12, "vesselTurn", "(II)I"⟩
abbrev cX12_turn0 : ByteArray := prog_14_method_59_code
def yX12_turn0 : MethodName := ⟨RX12, "turn0", "(II)I"⟩
abbrev cX12_count0 : ByteArray := prog_14_method_60_code
def yX12_count0 : MethodName := ⟨RX12, "count0", "(II)I"⟩
abbrev cX12_tell0 : ByteArray := prog_14_method_61_code
def yX12_tell0 : MethodName := ⟨RX12, "tell0", "(II)I"⟩
abbrev cX12_act : ByteArray := prog_14_method_62_code
def yX12_act : MethodName := ⟨RX12, "act", "(III)I"⟩
abbrev cX12_trace : ByteArray := prog_14_method_63_code
def yX12_trace : MethodName := ⟨RX12, "trace", "(I)I"⟩
abbrev cX12_modulo : ByteArray := prog_14_method_64_code
def yX12_modulo : MethodName := ⟨RX12, "modulo", "(II)I"⟩
abbrev cX12_sumOf : ByteArray := prog_14_method_65_code
def yX12_sumOf : MethodName := ⟨RX12, "sumOf", "(II)I"⟩
abbrev cX12_forge : ByteArray := prog_14_method_66_code
def yX12_forge : MethodName := ⟨RX12, "forge", "(III)I"⟩
abbrev cX12_status : ByteArray := prog_14_method_67_code
def yX12_status : MethodName := ⟨RX12, "status", "()I"⟩
def RJ9 : String := "java/lang/Math"
def TJ9 : u_T := fun k => match k with
  | _ => ("", "", "", false)
def tyJ9 : Nat → FieldType := fun k => match k with
  | _ => .int
abbrev wsJ90 : List Cond := u_ws RJ9 TJ9 0
theorem nmJ9 : ∀ a, a < 0 → ∀ b, b < 0 → a ≠ b → (TJ9 a).2.1 ≠ (TJ9 b).2.1 := by decide +kernel
theorem tyJ9_ok : ∀ k, k < 0 → parseFieldDescriptor (TJ9 k).2.2.1 = some (tyJ9 k) := by decide +kernel
abbrev cJ9_floorMod_7cf53 : ByteArray := prog_15_method_50_code
def yJ9_floorMod_7cf53 : MethodName := ⟨RJ9, "floorMod", "(II)I"⟩
abbrev cJ9_min_7cf53 : ByteArray := prog_15_method_69_code
def yJ9_min_7cf53 : MethodName := ⟨RJ9, "min", "(II)I"⟩
abbrev cJ9_min_f86c9 : ByteArray := prog_15_method_70_code
def yJ9_min_f86c9 : MethodName := ⟨RJ9, "min", "(JJ)J"⟩
def RJ10 : String := "java/lang/System"
def TJ10 : u_T := fun k => match k with
  | _ => ("", "", "", false)
def tyJ10 : Nat → FieldType := fun k => match k with
  | _ => .int
abbrev wsJ100 : List Cond := u_ws RJ10 TJ10 0
theorem nmJ10 : ∀ a, a < 0 → ∀ b, b < 0 → a ≠ b → (TJ10 a).2.1 ≠ (TJ10 b).2.1 := by decide +kernel
theorem tyJ10_ok : ∀ k, k < 0 → parseFieldDescriptor (TJ10 k).2.2.1 = some (tyJ10 k) := by decide +kernel
def RL : String := "HeronsBenchLaw"
abbrev cL_law : ByteArray := code
def yL_law : MethodName := ⟨RL, "law", "([I)Z"⟩
abbrev vwCl : List vw_C := [(RX0, TX0, 6), (RX1, TX1, 1), (RX2, TX2, 1), (RX3, TX3, 5), (RX4, TX4, 11), (RX5, TX5, 9), (RX6, TX6, 1), (RX7, TX7, 1), (RX8, TX8, 1), (RX9, TX9, 10), (RX10, TX10, 13), (RX11, TX11, 8), (RX12, TX12, 55)]
