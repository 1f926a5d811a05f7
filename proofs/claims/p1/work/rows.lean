section
-- ===== PART A: goes FIRST, ahead of the names: the tables' words, and 'selects' of the private methods out of them =====
/-- a private method of a class that the tables say can be made, by its rows of tables_1 -/
def lw_okq (q : MethodName × Nat) : Prop := (q.1.cls ≠ "java/lang/invoke/MethodHandle" ∧ q.1.cls ≠ "java/lang/invoke/VarHandle") ∧ Cond.instantiable q.1.cls q.2 ∈ tables_1 ∧ Cond.privateMethod q.1 ∈ tables_1 ∧ Cond.instanceMethod q.1 ∈ tables_1
theorem lw_p0 : lw_okq (⟨"HeronsBench", "refused", "(I)I"⟩, 8) := ⟨⟨by decide +kernel, by decide +kernel⟩, List.mem_of_getElem? (i := 17) (by decide +kernel), List.mem_of_getElem? (i := 377) (by decide +kernel), List.mem_of_getElem? (i := 378) (by decide +kernel)⟩
theorem lw_p1 : lw_okq (⟨"HeronsBench", "handDid", "(I)I"⟩, 8) := ⟨⟨by decide +kernel, by decide +kernel⟩, List.mem_of_getElem? (i := 17) (by decide +kernel), List.mem_of_getElem? (i := 385) (by decide +kernel), List.mem_of_getElem? (i := 386) (by decide +kernel)⟩
theorem lw_p2 : lw_okq (⟨"HeronsBench$Works", "isFull", "(I)Z"⟩, 13) := ⟨⟨by decide +kernel, by decide +kernel⟩, List.mem_of_getElem? (i := 89) (by decide +kernel), List.mem_of_getElem? (i := 397) (by decide +kernel), List.mem_of_getElem? (i := 398) (by decide +kernel)⟩
theorem lw_p3 : lw_okq (⟨"HeronsBench$Works", "tip", "(I)V"⟩, 13) := ⟨⟨by decide +kernel, by decide +kernel⟩, List.mem_of_getElem? (i := 89) (by decide +kernel), List.mem_of_getElem? (i := 401) (by decide +kernel), List.mem_of_getElem? (i := 402) (by decide +kernel)⟩
theorem lw_p4 : lw_okq (⟨"HeronsBench$Works", "happen", "(II)V"⟩, 13) := ⟨⟨by decide +kernel, by decide +kernel⟩, List.mem_of_getElem? (i := 89) (by decide +kernel), List.mem_of_getElem? (i := 416) (by decide +kernel), List.mem_of_getElem? (i := 417) (by decide +kernel)⟩
theorem lw_p5 : lw_okq (⟨"HeronsBench$Works", "settleSiphon", "(I)V"⟩, 13) := ⟨⟨by decide +kernel, by decide +kernel⟩, List.mem_of_getElem? (i := 89) (by decide +kernel), List.mem_of_getElem? (i := 420) (by decide +kernel), List.mem_of_getElem? (i := 421) (by decide +kernel)⟩
theorem lw_p6 : lw_okq (⟨"HeronsBench$Works", "settleFloat", "(I)V"⟩, 13) := ⟨⟨by decide +kernel, by decide +kernel⟩, List.mem_of_getElem? (i := 89) (by decide +kernel), List.mem_of_getElem? (i := 432) (by decide +kernel), List.mem_of_getElem? (i := 433) (by decide +kernel)⟩
theorem lw_p7 : lw_okq (⟨"HeronsBench$Works", "ownIs", "(IZ)Z"⟩, 13) := ⟨⟨by decide +kernel, by decide +kernel⟩, List.mem_of_getElem? (i := 89) (by decide +kernel), List.mem_of_getElem? (i := 436) (by decide +kernel), List.mem_of_getElem? (i := 437) (by decide +kernel)⟩
theorem lw_p8 : lw_okq (⟨"HeronsBench$Works", "advance", "(JJ)Z"⟩, 13) := ⟨⟨by decide +kernel, by decide +kernel⟩, List.mem_of_getElem? (i := 89) (by decide +kernel), List.mem_of_getElem? (i := 452) (by decide +kernel), List.mem_of_getElem? (i := 453) (by decide +kernel)⟩
theorem lw_p9 : lw_okq (⟨"HeronsBench$Works", "commonBehind", "(JJJ)J"⟩, 13) := ⟨⟨by decide +kernel, by decide +kernel⟩, List.mem_of_getElem? (i := 89) (by decide +kernel), List.mem_of_getElem? (i := 456) (by decide +kernel), List.mem_of_getElem? (i := 457) (by decide +kernel)⟩
theorem lw_p10 : lw_okq (⟨"HeronsBench", "answered", "(I)I"⟩, 8) := ⟨⟨by decide +kernel, by decide +kernel⟩, List.mem_of_getElem? (i := 17) (by decide +kernel), List.mem_of_getElem? (i := 475) (by decide +kernel), List.mem_of_getElem? (i := 476) (by decide +kernel)⟩
theorem lw_p11 : lw_okq (⟨"HeronsBench$Works", "bring", "(II)V"⟩, 13) := ⟨⟨by decide +kernel, by decide +kernel⟩, List.mem_of_getElem? (i := 89) (by decide +kernel), List.mem_of_getElem? (i := 560) (by decide +kernel), List.mem_of_getElem? (i := 561) (by decide +kernel)⟩
theorem lw_p12 : lw_okq (⟨"HeronsBench$Works", "reckonVessel", "(I)V"⟩, 13) := ⟨⟨by decide +kernel, by decide +kernel⟩, List.mem_of_getElem? (i := 89) (by decide +kernel), List.mem_of_getElem? (i := 564) (by decide +kernel), List.mem_of_getElem? (i := 565) (by decide +kernel)⟩
theorem lw_p13 : lw_okq (⟨"HeronsBench$Works", "seekRise", "(I)V"⟩, 13) := ⟨⟨by decide +kernel, by decide +kernel⟩, List.mem_of_getElem? (i := 89) (by decide +kernel), List.mem_of_getElem? (i := 571) (by decide +kernel), List.mem_of_getElem? (i := 572) (by decide +kernel)⟩
theorem lw_p14 : lw_okq (⟨"HeronsBench$Works", "offer", "(JJ)V"⟩, 13) := ⟨⟨by decide +kernel, by decide +kernel⟩, List.mem_of_getElem? (i := 89) (by decide +kernel), List.mem_of_getElem? (i := 575) (by decide +kernel), List.mem_of_getElem? (i := 576) (by decide +kernel)⟩
theorem lw_p15 : lw_okq (⟨"HeronsBench$Works", "seekFall", "(I)V"⟩, 13) := ⟨⟨by decide +kernel, by decide +kernel⟩, List.mem_of_getElem? (i := 89) (by decide +kernel), List.mem_of_getElem? (i := 579) (by decide +kernel), List.mem_of_getElem? (i := 580) (by decide +kernel)⟩
def lw_privs_1 : List (MethodName × Nat) := [(⟨"HeronsBench", "refused", "(I)I"⟩, 8), (⟨"HeronsBench", "handDid", "(I)I"⟩, 8), (⟨"HeronsBench$Works", "isFull", "(I)Z"⟩, 13), (⟨"HeronsBench$Works", "tip", "(I)V"⟩, 13), (⟨"HeronsBench$Works", "happen", "(II)V"⟩, 13), (⟨"HeronsBench$Works", "settleSiphon", "(I)V"⟩, 13), (⟨"HeronsBench$Works", "settleFloat", "(I)V"⟩, 13), (⟨"HeronsBench$Works", "ownIs", "(IZ)Z"⟩, 13), (⟨"HeronsBench$Works", "advance", "(JJ)Z"⟩, 13), (⟨"HeronsBench$Works", "commonBehind", "(JJJ)J"⟩, 13), (⟨"HeronsBench", "answered", "(I)I"⟩, 8), (⟨"HeronsBench$Works", "bring", "(II)V"⟩, 13), (⟨"HeronsBench$Works", "reckonVessel", "(I)V"⟩, 13), (⟨"HeronsBench$Works", "seekRise", "(I)V"⟩, 13), (⟨"HeronsBench$Works", "offer", "(JJ)V"⟩, 13), (⟨"HeronsBench$Works", "seekFall", "(I)V"⟩, 13)]
theorem lw_r1 : ∀ q ∈ lw_privs_1, lw_okq q := List.forall_mem_cons.mpr ⟨lw_p0, List.forall_mem_cons.mpr ⟨lw_p1, List.forall_mem_cons.mpr ⟨lw_p2, List.forall_mem_cons.mpr ⟨lw_p3, List.forall_mem_cons.mpr ⟨lw_p4, List.forall_mem_cons.mpr ⟨lw_p5, List.forall_mem_cons.mpr ⟨lw_p6, List.forall_mem_cons.mpr ⟨lw_p7, List.forall_mem_cons.mpr ⟨lw_p8, List.forall_mem_cons.mpr ⟨lw_p9, List.forall_mem_cons.mpr ⟨lw_p10, List.forall_mem_cons.mpr ⟨lw_p11, List.forall_mem_cons.mpr ⟨lw_p12, List.forall_mem_cons.mpr ⟨lw_p13, List.forall_mem_cons.mpr ⟨lw_p14, List.forall_mem_cons.mpr ⟨lw_p15, fun _ h => absurd h List.not_mem_nil⟩⟩⟩⟩⟩⟩⟩⟩⟩⟩⟩⟩⟩⟩⟩⟩
theorem lw_p16 : lw_okq (⟨"HeronsBench$Rounds", "keep", "(ILHeronsBench$Water;)V"⟩, 9) := ⟨⟨by decide +kernel, by decide +kernel⟩, List.mem_of_getElem? (i := 228) (by decide +kernel), List.mem_of_getElem? (i := 695) (by decide +kernel), List.mem_of_getElem? (i := 696) (by decide +kernel)⟩
theorem lw_p17 : lw_okq (⟨"HeronsBench$Rounds", "firstLike", "(LHeronsBench$Water;I)I"⟩, 9) := ⟨⟨by decide +kernel, by decide +kernel⟩, List.mem_of_getElem? (i := 228) (by decide +kernel), List.mem_of_getElem? (i := 703) (by decide +kernel), List.mem_of_getElem? (i := 704) (by decide +kernel)⟩
theorem lw_p18 : lw_okq (⟨"HeronsBench$Rounds", "isLike", "(ILHeronsBench$Water;)Z"⟩, 9) := ⟨⟨by decide +kernel, by decide +kernel⟩, List.mem_of_getElem? (i := 228) (by decide +kernel), List.mem_of_getElem? (i := 707) (by decide +kernel), List.mem_of_getElem? (i := 708) (by decide +kernel)⟩
theorem lw_p19 : lw_okq (⟨"HeronsBench$Rounds", "tell", "(ILHeronsBench$Water;)V"⟩, 9) := ⟨⟨by decide +kernel, by decide +kernel⟩, List.mem_of_getElem? (i := 228) (by decide +kernel), List.mem_of_getElem? (i := 711) (by decide +kernel), List.mem_of_getElem? (i := 712) (by decide +kernel)⟩
theorem lw_p20 : lw_okq (⟨"HeronsBench", "firstShutsAt", "(II)Z"⟩, 8) := ⟨⟨by decide +kernel, by decide +kernel⟩, List.mem_of_getElem? (i := 17) (by decide +kernel), List.mem_of_getElem? (i := 729) (by decide +kernel), List.mem_of_getElem? (i := 730) (by decide +kernel)⟩
theorem lw_p21 : lw_okq (⟨"HeronsBench", "takenFor", "(II)I"⟩, 8) := ⟨⟨by decide +kernel, by decide +kernel⟩, List.mem_of_getElem? (i := 17) (by decide +kernel), List.mem_of_getElem? (i := 831) (by decide +kernel), List.mem_of_getElem? (i := 832) (by decide +kernel)⟩
theorem lw_p22 : lw_okq (⟨"HeronsBench", "copiedBrims", "(II)I"⟩, 8) := ⟨⟨by decide +kernel, by decide +kernel⟩, List.mem_of_getElem? (i := 17) (by decide +kernel), List.mem_of_getElem? (i := 840) (by decide +kernel), List.mem_of_getElem? (i := 841) (by decide +kernel)⟩
theorem lw_p23 : lw_okq (⟨"HeronsBench", "putAmongFloats", "(I)I"⟩, 8) := ⟨⟨by decide +kernel, by decide +kernel⟩, List.mem_of_getElem? (i := 17) (by decide +kernel), List.mem_of_getElem? (i := 848) (by decide +kernel), List.mem_of_getElem? (i := 849) (by decide +kernel)⟩
theorem lw_p24 : lw_okq (⟨"HeronsBenchModel", "refused", "(I)I"⟩, 55) := ⟨⟨by decide +kernel, by decide +kernel⟩, List.mem_of_getElem? (i := 856) (by decide +kernel), List.mem_of_getElem? (i := 1036) (by decide +kernel), List.mem_of_getElem? (i := 1037) (by decide +kernel)⟩
theorem lw_p25 : lw_okq (⟨"HeronsBenchModel", "hand", "(I)I"⟩, 55) := ⟨⟨by decide +kernel, by decide +kernel⟩, List.mem_of_getElem? (i := 856) (by decide +kernel), List.mem_of_getElem? (i := 1040) (by decide +kernel), List.mem_of_getElem? (i := 1041) (by decide +kernel)⟩
theorem lw_p26 : lw_okq (⟨"HeronsBenchModel", "moment", "()V"⟩, 55) := ⟨⟨by decide +kernel, by decide +kernel⟩, List.mem_of_getElem? (i := 856) (by decide +kernel), List.mem_of_getElem? (i := 1044) (by decide +kernel), List.mem_of_getElem? (i := 1045) (by decide +kernel)⟩
theorem lw_p27 : lw_okq (⟨"HeronsBenchModel", "note", "(II)V"⟩, 55) := ⟨⟨by decide +kernel, by decide +kernel⟩, List.mem_of_getElem? (i := 856) (by decide +kernel), List.mem_of_getElem? (i := 1048) (by decide +kernel), List.mem_of_getElem? (i := 1049) (by decide +kernel)⟩
theorem lw_p28 : lw_okq (⟨"HeronsBenchModel", "pour", "(IJ)V"⟩, 55) := ⟨⟨by decide +kernel, by decide +kernel⟩, List.mem_of_getElem? (i := 856) (by decide +kernel), List.mem_of_getElem? (i := 1052) (by decide +kernel), List.mem_of_getElem? (i := 1053) (by decide +kernel)⟩
theorem lw_p29 : lw_okq (⟨"HeronsBenchModel", "isFloat", "(I)Z"⟩, 55) := ⟨⟨by decide +kernel, by decide +kernel⟩, List.mem_of_getElem? (i := 856) (by decide +kernel), List.mem_of_getElem? (i := 1056) (by decide +kernel), List.mem_of_getElem? (i := 1057) (by decide +kernel)⟩
theorem lw_p30 : lw_okq (⟨"HeronsBenchModel", "floats", "(I)V"⟩, 55) := ⟨⟨by decide +kernel, by decide +kernel⟩, List.mem_of_getElem? (i := 856) (by decide +kernel), List.mem_of_getElem? (i := 1060) (by decide +kernel), List.mem_of_getElem? (i := 1061) (by decide +kernel)⟩
theorem lw_p31 : lw_okq (⟨"HeronsBenchModel", "lowest", "()V"⟩, 55) := ⟨⟨by decide +kernel, by decide +kernel⟩, List.mem_of_getElem? (i := 856) (by decide +kernel), List.mem_of_getElem? (i := 1064) (by decide +kernel), List.mem_of_getElem? (i := 1065) (by decide +kernel)⟩
def lw_privs_2 : List (MethodName × Nat) := [(⟨"HeronsBench$Rounds", "keep", "(ILHeronsBench$Water;)V"⟩, 9), (⟨"HeronsBench$Rounds", "firstLike", "(LHeronsBench$Water;I)I"⟩, 9), (⟨"HeronsBench$Rounds", "isLike", "(ILHeronsBench$Water;)Z"⟩, 9), (⟨"HeronsBench$Rounds", "tell", "(ILHeronsBench$Water;)V"⟩, 9), (⟨"HeronsBench", "firstShutsAt", "(II)Z"⟩, 8), (⟨"HeronsBench", "takenFor", "(II)I"⟩, 8), (⟨"HeronsBench", "copiedBrims", "(II)I"⟩, 8), (⟨"HeronsBench", "putAmongFloats", "(I)I"⟩, 8), (⟨"HeronsBenchModel", "refused", "(I)I"⟩, 55), (⟨"HeronsBenchModel", "hand", "(I)I"⟩, 55), (⟨"HeronsBenchModel", "moment", "()V"⟩, 55), (⟨"HeronsBenchModel", "note", "(II)V"⟩, 55), (⟨"HeronsBenchModel", "pour", "(IJ)V"⟩, 55), (⟨"HeronsBenchModel", "isFloat", "(I)Z"⟩, 55), (⟨"HeronsBenchModel", "floats", "(I)V"⟩, 55), (⟨"HeronsBenchModel", "lowest", "()V"⟩, 55)]
theorem lw_r2 : ∀ q ∈ lw_privs_2, lw_okq q := List.forall_mem_cons.mpr ⟨lw_p16, List.forall_mem_cons.mpr ⟨lw_p17, List.forall_mem_cons.mpr ⟨lw_p18, List.forall_mem_cons.mpr ⟨lw_p19, List.forall_mem_cons.mpr ⟨lw_p20, List.forall_mem_cons.mpr ⟨lw_p21, List.forall_mem_cons.mpr ⟨lw_p22, List.forall_mem_cons.mpr ⟨lw_p23, List.forall_mem_cons.mpr ⟨lw_p24, List.forall_mem_cons.mpr ⟨lw_p25, List.forall_mem_cons.mpr ⟨lw_p26, List.forall_mem_cons.mpr ⟨lw_p27, List.forall_mem_cons.mpr ⟨lw_p28, List.forall_mem_cons.mpr ⟨lw_p29, List.forall_mem_cons.mpr ⟨lw_p30, List.forall_mem_cons.mpr ⟨lw_p31, fun _ h => absurd h List.not_mem_nil⟩⟩⟩⟩⟩⟩⟩⟩⟩⟩⟩⟩⟩⟩⟩⟩
theorem lw_p32 : lw_okq (⟨"HeronsBenchModel", "done", "(I)I"⟩, 55) := ⟨⟨by decide +kernel, by decide +kernel⟩, List.mem_of_getElem? (i := 856) (by decide +kernel), List.mem_of_getElem? (i := 1071) (by decide +kernel), List.mem_of_getElem? (i := 1072) (by decide +kernel)⟩
theorem lw_p33 : lw_okq (⟨"HeronsBenchModel", "isVessel", "(I)Z"⟩, 55) := ⟨⟨by decide +kernel, by decide +kernel⟩, List.mem_of_getElem? (i := 856) (by decide +kernel), List.mem_of_getElem? (i := 1079) (by decide +kernel), List.mem_of_getElem? (i := 1080) (by decide +kernel)⟩
theorem lw_p34 : lw_okq (⟨"HeronsBenchModel", "isPipe", "(I)Z"⟩, 55) := ⟨⟨by decide +kernel, by decide +kernel⟩, List.mem_of_getElem? (i := 856) (by decide +kernel), List.mem_of_getElem? (i := 1087) (by decide +kernel), List.mem_of_getElem? (i := 1088) (by decide +kernel)⟩
theorem lw_p35 : lw_okq (⟨"HeronsBenchModel", "isBehind", "(II)Z"⟩, 55) := ⟨⟨by decide +kernel, by decide +kernel⟩, List.mem_of_getElem? (i := 856) (by decide +kernel), List.mem_of_getElem? (i := 1095) (by decide +kernel), List.mem_of_getElem? (i := 1096) (by decide +kernel)⟩
theorem lw_p36 : lw_okq (⟨"HeronsBenchModel", "seek", "()V"⟩, 55) := ⟨⟨by decide +kernel, by decide +kernel⟩, List.mem_of_getElem? (i := 856) (by decide +kernel), List.mem_of_getElem? (i := 1123) (by decide +kernel), List.mem_of_getElem? (i := 1124) (by decide +kernel)⟩
theorem lw_p37 : lw_okq (⟨"HeronsBenchModel", "rates", "()V"⟩, 55) := ⟨⟨by decide +kernel, by decide +kernel⟩, List.mem_of_getElem? (i := 856) (by decide +kernel), List.mem_of_getElem? (i := 1127) (by decide +kernel), List.mem_of_getElem? (i := 1128) (by decide +kernel)⟩
theorem lw_p38 : lw_okq (⟨"HeronsBenchModel", "runs", "(I)Z"⟩, 55) := ⟨⟨by decide +kernel, by decide +kernel⟩, List.mem_of_getElem? (i := 856) (by decide +kernel), List.mem_of_getElem? (i := 1131) (by decide +kernel), List.mem_of_getElem? (i := 1132) (by decide +kernel)⟩
theorem lw_p39 : lw_okq (⟨"HeronsBenchModel", "goesTo", "(II)V"⟩, 55) := ⟨⟨by decide +kernel, by decide +kernel⟩, List.mem_of_getElem? (i := 856) (by decide +kernel), List.mem_of_getElem? (i := 1135) (by decide +kernel), List.mem_of_getElem? (i := 1136) (by decide +kernel)⟩
theorem lw_p40 : lw_okq (⟨"HeronsBenchModel", "rateOf", "(I)V"⟩, 55) := ⟨⟨by decide +kernel, by decide +kernel⟩, List.mem_of_getElem? (i := 856) (by decide +kernel), List.mem_of_getElem? (i := 1139) (by decide +kernel), List.mem_of_getElem? (i := 1140) (by decide +kernel)⟩
theorem lw_p41 : lw_okq (⟨"HeronsBenchModel", "may", "(JI)V"⟩, 55) := ⟨⟨by decide +kernel, by decide +kernel⟩, List.mem_of_getElem? (i := 856) (by decide +kernel), List.mem_of_getElem? (i := 1143) (by decide +kernel), List.mem_of_getElem? (i := 1144) (by decide +kernel)⟩
theorem lw_p42 : lw_okq (⟨"HeronsBenchModel", "step", "(J)I"⟩, 55) := ⟨⟨by decide +kernel, by decide +kernel⟩, List.mem_of_getElem? (i := 856) (by decide +kernel), List.mem_of_getElem? (i := 1147) (by decide +kernel), List.mem_of_getElem? (i := 1148) (by decide +kernel)⟩
theorem lw_p43 : lw_okq (⟨"HeronsBenchModel", "passes", "(JJ)Z"⟩, 55) := ⟨⟨by decide +kernel, by decide +kernel⟩, List.mem_of_getElem? (i := 856) (by decide +kernel), List.mem_of_getElem? (i := 1151) (by decide +kernel), List.mem_of_getElem? (i := 1152) (by decide +kernel)⟩
theorem lw_p44 : lw_okq (⟨"HeronsBenchModel", "moved", "(JJJJJ)J"⟩, 55) := ⟨⟨by decide +kernel, by decide +kernel⟩, List.mem_of_getElem? (i := 856) (by decide +kernel), List.mem_of_getElem? (i := 1155) (by decide +kernel), List.mem_of_getElem? (i := 1156) (by decide +kernel)⟩
theorem lw_p45 : lw_okq (⟨"HeronsBenchModel", "keep", "()V"⟩, 55) := ⟨⟨by decide +kernel, by decide +kernel⟩, List.mem_of_getElem? (i := 856) (by decide +kernel), List.mem_of_getElem? (i := 1213) (by decide +kernel), List.mem_of_getElem? (i := 1214) (by decide +kernel)⟩
theorem lw_p46 : lw_okq (⟨"HeronsBenchModel", "seekRound", "()I"⟩, 55) := ⟨⟨by decide +kernel, by decide +kernel⟩, List.mem_of_getElem? (i := 856) (by decide +kernel), List.mem_of_getElem? (i := 1217) (by decide +kernel), List.mem_of_getElem? (i := 1218) (by decide +kernel)⟩
theorem lw_p47 : lw_okq (⟨"HeronsBenchModel", "put", "(I)V"⟩, 55) := ⟨⟨by decide +kernel, by decide +kernel⟩, List.mem_of_getElem? (i := 856) (by decide +kernel), List.mem_of_getElem? (i := 1221) (by decide +kernel), List.mem_of_getElem? (i := 1222) (by decide +kernel)⟩
def lw_privs_3 : List (MethodName × Nat) := [(⟨"HeronsBenchModel", "done", "(I)I"⟩, 55), (⟨"HeronsBenchModel", "isVessel", "(I)Z"⟩, 55), (⟨"HeronsBenchModel", "isPipe", "(I)Z"⟩, 55), (⟨"HeronsBenchModel", "isBehind", "(II)Z"⟩, 55), (⟨"HeronsBenchModel", "seek", "()V"⟩, 55), (⟨"HeronsBenchModel", "rates", "()V"⟩, 55), (⟨"HeronsBenchModel", "runs", "(I)Z"⟩, 55), (⟨"HeronsBenchModel", "goesTo", "(II)V"⟩, 55), (⟨"HeronsBenchModel", "rateOf", "(I)V"⟩, 55), (⟨"HeronsBenchModel", "may", "(JI)V"⟩, 55), (⟨"HeronsBenchModel", "step", "(J)I"⟩, 55), (⟨"HeronsBenchModel", "passes", "(JJ)Z"⟩, 55), (⟨"HeronsBenchModel", "moved", "(JJJJJ)J"⟩, 55), (⟨"HeronsBenchModel", "keep", "()V"⟩, 55), (⟨"HeronsBenchModel", "seekRound", "()I"⟩, 55), (⟨"HeronsBenchModel", "put", "(I)V"⟩, 55)]
theorem lw_r3 : ∀ q ∈ lw_privs_3, lw_okq q := List.forall_mem_cons.mpr ⟨lw_p32, List.forall_mem_cons.mpr ⟨lw_p33, List.forall_mem_cons.mpr ⟨lw_p34, List.forall_mem_cons.mpr ⟨lw_p35, List.forall_mem_cons.mpr ⟨lw_p36, List.forall_mem_cons.mpr ⟨lw_p37, List.forall_mem_cons.mpr ⟨lw_p38, List.forall_mem_cons.mpr ⟨lw_p39, List.forall_mem_cons.mpr ⟨lw_p40, List.forall_mem_cons.mpr ⟨lw_p41, List.forall_mem_cons.mpr ⟨lw_p42, List.forall_mem_cons.mpr ⟨lw_p43, List.forall_mem_cons.mpr ⟨lw_p44, List.forall_mem_cons.mpr ⟨lw_p45, List.forall_mem_cons.mpr ⟨lw_p46, List.forall_mem_cons.mpr ⟨lw_p47, fun _ h => absurd h List.not_mem_nil⟩⟩⟩⟩⟩⟩⟩⟩⟩⟩⟩⟩⟩⟩⟩⟩
theorem lw_p48 : lw_okq (⟨"HeronsBenchModel", "isSame", "(II)Z"⟩, 55) := ⟨⟨by decide +kernel, by decide +kernel⟩, List.mem_of_getElem? (i := 856) (by decide +kernel), List.mem_of_getElem? (i := 1226) (by decide +kernel), List.mem_of_getElem? (i := 1227) (by decide +kernel)⟩
theorem lw_p49 : lw_okq (⟨"HeronsBenchModel", "back", "()V"⟩, 55) := ⟨⟨by decide +kernel, by decide +kernel⟩, List.mem_of_getElem? (i := 856) (by decide +kernel), List.mem_of_getElem? (i := 1230) (by decide +kernel), List.mem_of_getElem? (i := 1231) (by decide +kernel)⟩
theorem lw_p50 : lw_okq (⟨"HeronsBenchModel", "shutsAt", "(I)Z"⟩, 55) := ⟨⟨by decide +kernel, by decide +kernel⟩, List.mem_of_getElem? (i := 856) (by decide +kernel), List.mem_of_getElem? (i := 1238) (by decide +kernel), List.mem_of_getElem? (i := 1239) (by decide +kernel)⟩
theorem lw_p51 : lw_okq (⟨"HeronsBenchModel", "fill0", "(II)I"⟩, 55) := ⟨⟨by decide +kernel, by decide +kernel⟩, List.mem_of_getElem? (i := 856) (by decide +kernel), List.mem_of_getElem? (i := 1246) (by decide +kernel), List.mem_of_getElem? (i := 1247) (by decide +kernel)⟩
theorem lw_p52 : lw_okq (⟨"HeronsBenchModel", "ran", "(I)V"⟩, 55) := ⟨⟨by decide +kernel, by decide +kernel⟩, List.mem_of_getElem? (i := 856) (by decide +kernel), List.mem_of_getElem? (i := 1250) (by decide +kernel), List.mem_of_getElem? (i := 1251) (by decide +kernel)⟩
theorem lw_p53 : lw_okq (⟨"HeronsBenchModel", "vesselFill", "(II)I"⟩, 55) := ⟨⟨by decide +kernel, by decide +kernel⟩, List.mem_of_getElem? (i := 856) (by decide +kernel), List.mem_of_getElem? (i := 1254) (by decide +kernel), List.mem_of_getElem? (i := 1255) (by decide +kernel)⟩
theorem lw_p54 : lw_okq (⟨"HeronsBenchModel", "turn0", "(II)I"⟩, 55) := ⟨⟨by decide +kernel, by decide +kernel⟩, List.mem_of_getElem? (i := 856) (by decide +kernel), List.mem_of_getElem? (i := 1258) (by decide +kernel), List.mem_of_getElem? (i := 1259) (by decide +kernel)⟩
theorem lw_p55 : lw_okq (⟨"HeronsBenchModel", "vesselTurn", "(II)I"⟩, 55) := ⟨⟨by decide +kernel, by decide +kernel⟩, List.mem_of_getElem? (i := 856) (by decide +kernel), List.mem_of_getElem? (i := 1262) (by decide +kernel), List.mem_of_getElem? (i := 1263) (by decide +kernel)⟩
theorem lw_p56 : lw_okq (⟨"HeronsBenchModel", "count0", "(II)I"⟩, 55) := ⟨⟨by decide +kernel, by decide +kernel⟩, List.mem_of_getElem? (i := 856) (by decide +kernel), List.mem_of_getElem? (i := 1266) (by decide +kernel), List.mem_of_getElem? (i := 1267) (by decide +kernel)⟩
theorem lw_p57 : lw_okq (⟨"HeronsBenchModel", "tell0", "(II)I"⟩, 55) := ⟨⟨by decide +kernel, by decide +kernel⟩, List.mem_of_getElem? (i := 856) (by decide +kernel), List.mem_of_getElem? (i := 1270) (by decide +kernel), List.mem_of_getElem? (i := 1271) (by decide +kernel)⟩
theorem lw_p58 : lw_okq (⟨"HeronsBenchModel", "sumOf", "(II)I"⟩, 55) := ⟨⟨by decide +kernel, by decide +kernel⟩, List.mem_of_getElem? (i := 856) (by decide +kernel), List.mem_of_getElem? (i := 1285) (by decide +kernel), List.mem_of_getElem? (i := 1286) (by decide +kernel)⟩
def lw_privs_4 : List (MethodName × Nat) := [(⟨"HeronsBenchModel", "isSame", "(II)Z"⟩, 55), (⟨"HeronsBenchModel", "back", "()V"⟩, 55), (⟨"HeronsBenchModel", "shutsAt", "(I)Z"⟩, 55), (⟨"HeronsBenchModel", "fill0", "(II)I"⟩, 55), (⟨"HeronsBenchModel", "ran", "(I)V"⟩, 55), (⟨"HeronsBenchModel", "vesselFill", "(II)I"⟩, 55), (⟨"HeronsBenchModel", "turn0", "(II)I"⟩, 55), (⟨"HeronsBenchModel", "vesselTurn", "(II)I"⟩, 55), (⟨"HeronsBenchModel", "count0", "(II)I"⟩, 55), (⟨"HeronsBenchModel", "tell0", "(II)I"⟩, 55), (⟨"HeronsBenchModel", "sumOf", "(II)I"⟩, 55)]
theorem lw_r4 : ∀ q ∈ lw_privs_4, lw_okq q := List.forall_mem_cons.mpr ⟨lw_p48, List.forall_mem_cons.mpr ⟨lw_p49, List.forall_mem_cons.mpr ⟨lw_p50, List.forall_mem_cons.mpr ⟨lw_p51, List.forall_mem_cons.mpr ⟨lw_p52, List.forall_mem_cons.mpr ⟨lw_p53, List.forall_mem_cons.mpr ⟨lw_p54, List.forall_mem_cons.mpr ⟨lw_p55, List.forall_mem_cons.mpr ⟨lw_p56, List.forall_mem_cons.mpr ⟨lw_p57, List.forall_mem_cons.mpr ⟨lw_p58, fun _ h => absurd h List.not_mem_nil⟩⟩⟩⟩⟩⟩⟩⟩⟩⟩⟩
def lw_privs : List (MethodName × Nat) := lw_privs_1 ++ (lw_privs_2 ++ (lw_privs_3 ++ (lw_privs_4)))
def lw_tbl : List Cond := k2_sels lw_privs ++ tables_1
theorem lw_privs_ok : ∀ q ∈ lw_privs, lw_okq q := by
  show ∀ q ∈ lw_privs_1 ++ (lw_privs_2 ++ (lw_privs_3 ++ (lw_privs_4))), lw_okq q
  exact List.forall_mem_append.mpr ⟨lw_r1, List.forall_mem_append.mpr ⟨lw_r2, List.forall_mem_append.mpr ⟨lw_r3, lw_r4⟩⟩⟩
def RX0 : String := "HeronsBench$ActRun"
def TX0 : u_T := fun k => match k with
  | 0 => ("HeronsBench$ActRun", "brim", "I", false)
  | 1 => ("HeronsBench$ActRun", "high", "I", false)
  | 2 => ("HeronsBench$ActRun", "low", "I", false)
  | 3 => ("HeronsBench$ActRun", "counted", "I", false)
  | 4 => ("HeronsBench$ActRun", "traced", "I", false)
  | _ => ("HeronsBench$ActRun", "bodies", "[I", true)
def tyX0 : Nat → FieldType := fun k => match k with
  | 0 => .int
  | 1 => .int
  | 2 => .int
  | 3 => .int
  | 4 => .int
  | _ => .array .int
abbrev wsX00 : List Cond := u_ws RX0 TX0 6
theorem nmX0 : ∀ a, a < 6 → ∀ b, b < 6 → a ≠ b → (TX0 a).2.1 ≠ (TX0 b).2.1 := by decide +kernel
theorem tyX0_ok : ∀ k, k < 6 → parseFieldDescriptor (TX0 k).2.2.1 = some (tyX0 k) := by decide +kernel
abbrev cX0_init : ByteArray := prog_2_method_1_code
def yX0_init : MethodName := ⟨RX0, "<init>", "()V"⟩
abbrev cX0_begin : ByteArray := prog_2_method_2_code
def yX0_begin : MethodName := ⟨RX0, "begin", "(LHeronsBench$Plan;LHeronsBench$Water;I)V"⟩
abbrev cX0_began : ByteArray := prog_2_method_3_code
def yX0_began : MethodName := ⟨RX0, "began", "(I)V"⟩
def RX1 : String := "HeronsBench$ClockActs"
def TX1 : u_T := fun k => match k with
  | _ => ("HeronsBench$VesselActs", "run", "LHeronsBench$ActRun;", true)
def tyX1 : Nat → FieldType := fun k => match k with
  | _ => .object "HeronsBench$ActRun"
abbrev wsX10 : List Cond := u_ws RX1 TX1 1
theorem nmX1 : ∀ a, a < 1 → ∀ b, b < 1 → a ≠ b → (TX1 a).2.1 ≠ (TX1 b).2.1 := by decide +kernel
theorem tyX1_ok : ∀ k, k < 1 → parseFieldDescriptor (TX1 k).2.2.1 = some (tyX1 k) := by decide +kernel
abbrev cX1_init : ByteArray := prog_3_method_1_code
def yX1_init : MethodName := ⟨RX1, "<init>", "(LHeronsBench$ActRun;)V"⟩
abbrev cX1_countBody : ByteArray := prog_3_method_2_code
def yX1_countBody : MethodName := ⟨RX1, "countBody", "(I)I"⟩
abbrev cX1_turnBody : ByteArray := prog_3_method_3_code
def yX1_turnBody : MethodName := ⟨RX1, "turnBody", "(I)I"⟩
def RX2 : String := "HeronsBench$FloatActs"
def TX2 : u_T := fun k => match k with
  | _ => ("HeronsBench$VesselActs", "run", "LHeronsBench$ActRun;", true)
def tyX2 : Nat → FieldType := fun k => match k with
  | _ => .object "HeronsBench$ActRun"
abbrev wsX20 : List Cond := u_ws RX2 TX2 1
theorem nmX2 : ∀ a, a < 1 → ∀ b, b < 1 → a ≠ b → (TX2 a).2.1 ≠ (TX2 b).2.1 := by decide +kernel
theorem tyX2_ok : ∀ k, k < 1 → parseFieldDescriptor (TX2 k).2.2.1 = some (tyX2 k) := by decide +kernel
abbrev cX2_init : ByteArray := prog_4_method_1_code
def yX2_init : MethodName := ⟨RX2, "<init>", "(LHeronsBench$ActRun;)V"⟩
abbrev cX2_countBody : ByteArray := prog_4_method_2_code
def yX2_countBody : MethodName := ⟨RX2, "countBody", "(I)I"⟩
abbrev cX2_fillBody : ByteArray := prog_4_method_3_code
def yX2_fillBody : MethodName := ⟨RX2, "fillBody", "(I)I"⟩
def RX3 : String := "HeronsBench$Log"
def TX3 : u_T := fun k => match k with
  | 0 => ("HeronsBench$Log", "came", "I", false)
  | 1 => ("HeronsBench$Log", "kinds", "[I", true)
  | 2 => ("HeronsBench$Log", "vessels", "[I", true)
  | 3 => ("HeronsBench$Log", "aboves", "[I", true)
  | _ => ("HeronsBench$Log", "belows", "[I", true)
def tyX3 : Nat → FieldType := fun k => match k with
  | 0 => .int
  | 1 => .array .int
  | 2 => .array .int
  | 3 => .array .int
  | _ => .array .int
abbrev wsX30 : List Cond := u_ws RX3 TX3 5
theorem nmX3 : ∀ a, a < 5 → ∀ b, b < 5 → a ≠ b → (TX3 a).2.1 ≠ (TX3 b).2.1 := by decide +kernel
theorem tyX3_ok : ∀ k, k < 5 → parseFieldDescriptor (TX3 k).2.2.1 = some (tyX3 k) := by decide +kernel
abbrev cX3_init : ByteArray := prog_5_method_1_code
def yX3_init : MethodName := ⟨RX3, "<init>", "()V"⟩
abbrev cX3_take : ByteArray := prog_5_method_2_code
def yX3_take : MethodName := ⟨RX3, "take", "(LHeronsBench$Works;)V"⟩
abbrev cX3_toldOf : ByteArray := prog_5_method_3_code
def yX3_toldOf : MethodName := ⟨RX3, "toldOf", "(II)I"⟩
def RX4 : String := "HeronsBench$Plan"
def TX4 : u_T := fun k => match k with
  | 0 => ("HeronsBench$Plan", "vessels", "I", false)
  | 1 => ("HeronsBench$Plan", "pipes", "I", false)
  | 2 => ("HeronsBench$Plan", "kinds", "[I", true)
  | 3 => ("HeronsBench$Plan", "brims", "[I", true)
  | 4 => ("HeronsBench$Plan", "highs", "[I", true)
  | 5 => ("HeronsBench$Plan", "lows", "[I", true)
  | 6 => ("HeronsBench$Plan", "owns", "[I", true)
  | 7 => ("HeronsBench$Plan", "tipTos", "[I", true)
  | 8 => ("HeronsBench$Plan", "overTos", "[I", true)
  | 9 => ("HeronsBench$Plan", "froms", "[I", true)
  | _ => ("HeronsBench$Plan", "tos", "[I", true)
def tyX4 : Nat → FieldType := fun k => match k with
  | 0 => .int
  | 1 => .int
  | 2 => .array .int
  | 3 => .array .int
  | 4 => .array .int
  | 5 => .array .int
  | 6 => .array .int
  | 7 => .array .int
  | 8 => .array .int
  | 9 => .array .int
  | _ => .array .int
abbrev wsX40 : List Cond := u_ws RX4 TX4 11
theorem nmX4 : ∀ a, a < 11 → ∀ b, b < 11 → a ≠ b → (TX4 a).2.1 ≠ (TX4 b).2.1 := by decide +kernel
theorem tyX4_ok : ∀ k, k < 11 → parseFieldDescriptor (TX4 k).2.2.1 = some (tyX4 k) := by decide +kernel
abbrev cX4_init : ByteArray := prog_6_method_1_code
def yX4_init : MethodName := ⟨RX4, "<init>", "()V"⟩
abbrev cX4_hasVessel : ByteArray := prog_6_method_2_code
def yX4_hasVessel : MethodName := ⟨RX4, "hasVessel", "(I)Z"⟩
abbrev cX4_hasPipe : ByteArray := prog_6_method_3_code
def yX4_hasPipe : MethodName := ⟨RX4, "hasPipe", "(I)Z"⟩
abbrev cX4_kindOf : ByteArray := prog_6_method_4_code
def yX4_kindOf : MethodName := ⟨RX4, "kindOf", "(I)I"⟩
abbrev cX4_brimOf : ByteArray := prog_6_method_5_code
def yX4_brimOf : MethodName := ⟨RX4, "brimOf", "(I)I"⟩
abbrev cX4_isFloat : ByteArray := prog_6_method_6_code
def yX4_isFloat : MethodName := ⟨RX4, "isFloat", "(I)Z"⟩
abbrev cX4_hasHigh : ByteArray := prog_6_method_7_code
def yX4_hasHigh : MethodName := ⟨RX4, "hasHigh", "(I)Z"⟩
abbrev cX4_liesBelow : ByteArray := prog_6_method_8_code
def yX4_liesBelow : MethodName := ⟨RX4, "liesBelow", "(II)Z"⟩
abbrev cX4_addVessel : ByteArray := prog_6_method_9_code
def yX4_addVessel : MethodName := ⟨RX4, "addVessel", "(II)I"⟩
abbrev cX4_addPipe : ByteArray := prog_6_method_10_code
def yX4_addPipe : MethodName := ⟨RX4, "addPipe", "(II)I"⟩
abbrev cX4_siphonOf : ByteArray := prog_6_method_11_code
def yX4_siphonOf : MethodName := ⟨RX4, "siphonOf", "(I)I"⟩
abbrev cX4_toldOf : ByteArray := prog_6_method_12_code
def yX4_toldOf : MethodName := ⟨RX4, "toldOf", "(II)I"⟩
def RX5 : String := "HeronsBench$Rounds"
def TX5 : u_T := fun k => match k with
  | 0 => ("HeronsBench$Rounds", "grains", "[J", true)
  | 1 => ("HeronsBench$Rounds", "moments", "[J", true)
  | 2 => ("HeronsBench$Rounds", "openPipes", "[I", true)
  | 3 => ("HeronsBench$Rounds", "siphonings", "[I", true)
  | 4 => ("HeronsBench$Rounds", "levels", "[J", true)
  | 5 => ("HeronsBench$Rounds", "beginAbove", "J", false)
  | 6 => ("HeronsBench$Rounds", "beginBelow", "J", false)
  | 7 => ("HeronsBench$Rounds", "spanAbove", "J", false)
  | _ => ("HeronsBench$Rounds", "spanBelow", "J", false)
def tyX5 : Nat → FieldType := fun k => match k with
  | 0 => .array .long
  | 1 => .array .long
  | 2 => .array .int
  | 3 => .array .int
  | 4 => .array .long
  | 5 => .long
  | 6 => .long
  | 7 => .long
  | _ => .long
abbrev wsX50 : List Cond := u_ws RX5 TX5 9
theorem nmX5 : ∀ a, a < 9 → ∀ b, b < 9 → a ≠ b → (TX5 a).2.1 ≠ (TX5 b).2.1 := by decide +kernel
theorem tyX5_ok : ∀ k, k < 9 → parseFieldDescriptor (TX5 k).2.2.1 = some (tyX5 k) := by decide +kernel
abbrev cX5_init : ByteArray := prog_7_method_1_code
def yX5_init : MethodName := ⟨RX5, "<init>", "()V"⟩
abbrev cX5_seek : ByteArray := prog_7_method_2_code
def yX5_seek : MethodName := ⟨RX5, "seek", "(LHeronsBench$Works;)I"⟩
abbrev cX5_toldOf : ByteArray := prog_7_method_3_code
def yX5_toldOf : MethodName := ⟨RX5, "toldOf", "(I)I"⟩
abbrev cX5_keep : ByteArray := prog_7_method_4_code
def yX5_keep : MethodName := ⟨RX5, "keep", "(ILHeronsBench$Water;)V"⟩
abbrev cX5_firstLike : ByteArray := prog_7_method_5_code
def yX5_firstLike : MethodName := ⟨RX5, "firstLike", "(LHeronsBench$Water;I)I"⟩
abbrev cX5_isLike : ByteArray := prog_7_method_6_code
def yX5_isLike : MethodName := ⟨RX5, "isLike", "(ILHeronsBench$Water;)Z"⟩
abbrev cX5_tell : ByteArray := prog_7_method_7_code
def yX5_tell : MethodName := ⟨RX5, "tell", "(ILHeronsBench$Water;)V"⟩
def RX6 : String := "HeronsBench$SiphonActs"
def TX6 : u_T := fun k => match k with
  | _ => ("HeronsBench$VesselActs", "run", "LHeronsBench$ActRun;", true)
def tyX6 : Nat → FieldType := fun k => match k with
  | _ => .object "HeronsBench$ActRun"
abbrev wsX60 : List Cond := u_ws RX6 TX6 1
theorem nmX6 : ∀ a, a < 1 → ∀ b, b < 1 → a ≠ b → (TX6 a).2.1 ≠ (TX6 b).2.1 := by decide +kernel
theorem tyX6_ok : ∀ k, k < 1 → parseFieldDescriptor (TX6 k).2.2.1 = some (tyX6 k) := by decide +kernel
abbrev cX6_init : ByteArray := prog_8_method_1_code
def yX6_init : MethodName := ⟨RX6, "<init>", "(LHeronsBench$ActRun;)V"⟩
abbrev cX6_turnBody : ByteArray := prog_8_method_2_code
def yX6_turnBody : MethodName := ⟨RX6, "turnBody", "(I)I"⟩
abbrev cX6_tellBody : ByteArray := prog_8_method_3_code
def yX6_tellBody : MethodName := ⟨RX6, "tellBody", "(I)I"⟩
def RX7 : String := "HeronsBench$TipperActs"
def TX7 : u_T := fun k => match k with
  | _ => ("HeronsBench$VesselActs", "run", "LHeronsBench$ActRun;", true)
def tyX7 : Nat → FieldType := fun k => match k with
  | _ => .object "HeronsBench$ActRun"
abbrev wsX70 : List Cond := u_ws RX7 TX7 1
theorem nmX7 : ∀ a, a < 1 → ∀ b, b < 1 → a ≠ b → (TX7 a).2.1 ≠ (TX7 b).2.1 := by decide +kernel
theorem tyX7_ok : ∀ k, k < 1 → parseFieldDescriptor (TX7 k).2.2.1 = some (tyX7 k) := by decide +kernel
abbrev cX7_init : ByteArray := prog_9_method_1_code
def yX7_init : MethodName := ⟨RX7, "<init>", "(LHeronsBench$ActRun;)V"⟩
abbrev cX7_fillBody : ByteArray := prog_9_method_2_code
def yX7_fillBody : MethodName := ⟨RX7, "fillBody", "(I)I"⟩
def RX8 : String := "HeronsBench$VesselActs"
def TX8 : u_T := fun k => match k with
  | _ => ("HeronsBench$VesselActs", "run", "LHeronsBench$ActRun;", true)
def tyX8 : Nat → FieldType := fun k => match k with
  | _ => .object "HeronsBench$ActRun"
abbrev wsX80 : List Cond := u_ws RX8 TX8 1
theorem nmX8 : ∀ a, a < 1 → ∀ b, b < 1 → a ≠ b → (TX8 a).2.1 ≠ (TX8 b).2.1 := by decide +kernel
theorem tyX8_ok : ∀ k, k < 1 → parseFieldDescriptor (TX8 k).2.2.1 = some (tyX8 k) := by decide +kernel
abbrev cX8_init : ByteArray := prog_10_method_1_code
def yX8_init : MethodName := ⟨RX8, "<init>", "(LHeronsBench$ActRun;)V"⟩
abbrev cX8_fillBody : ByteArray := prog_10_method_2_code
def yX8_fillBody : MethodName := ⟨RX8, "fillBody", "(I)I"⟩
abbrev cX8_turnBody : ByteArray := prog_10_method_3_code
def yX8_turnBody : MethodName := ⟨RX8, "turnBody", "(I)I"⟩
abbrev cX8_countBody : ByteArray := prog_10_method_4_code
def yX8_countBody : MethodName := ⟨RX8, "countBody", "(I)I"⟩
abbrev cX8_tellBody : ByteArray := prog_10_method_5_code
def yX8_tellBody : MethodName := ⟨RX8, "tellBody", "(I)I"⟩
def RX9 : String := "HeronsBench$Water"
def TX9 : u_T := fun k => match k with
  | 0 => ("HeronsBench$Water", "grain", "J", false)
  | 1 => ("HeronsBench$Water", "moment", "J", false)
  | 2 => ("HeronsBench$Water", "spring", "J", false)
  | 3 => ("HeronsBench$Water", "drain", "J", false)
  | 4 => ("HeronsBench$Water", "byHand", "J", false)
  | 5 => ("HeronsBench$Water", "openPipes", "I", false)
  | 6 => ("HeronsBench$Water", "siphoning", "I", false)
  | 7 => ("HeronsBench$Water", "levels", "[J", true)
  | 8 => ("HeronsBench$Water", "counted", "[I", true)
  | _ => ("HeronsBench$Water", "amounts", "[I", true)
def tyX9 : Nat → FieldType := fun k => match k with
  | 0 => .long
  | 1 => .long
  | 2 => .long
  | 3 => .long
  | 4 => .long
  | 5 => .int
  | 6 => .int
  | 7 => .array .long
  | 8 => .array .int
  | _ => .array .int
abbrev wsX90 : List Cond := u_ws RX9 TX9 10
theorem nmX9 : ∀ a, a < 10 → ∀ b, b < 10 → a ≠ b → (TX9 a).2.1 ≠ (TX9 b).2.1 := by decide +kernel
theorem tyX9_ok : ∀ k, k < 10 → parseFieldDescriptor (TX9 k).2.2.1 = some (tyX9 k) := by decide +kernel
abbrev cX9_init : ByteArray := prog_11_method_1_code
def yX9_init : MethodName := ⟨RX9, "<init>", "()V"⟩
abbrev cX9_takeOver : ByteArray := prog_11_method_2_code
def yX9_takeOver : MethodName := ⟨RX9, "takeOver", "(LHeronsBench$Water;)V"⟩
abbrev cX9_isOpen : ByteArray := prog_11_method_3_code
def yX9_isOpen : MethodName := ⟨RX9, "isOpen", "(I)Z"⟩
abbrev cX9_setOpen : ByteArray := prog_11_method_4_code
def yX9_setOpen : MethodName := ⟨RX9, "setOpen", "(IZ)V"⟩
abbrev cX9_isSiphoning : ByteArray := prog_11_method_5_code
def yX9_isSiphoning : MethodName := ⟨RX9, "isSiphoning", "(I)Z"⟩
abbrev cX9_setSiphoning : ByteArray := prog_11_method_6_code
def yX9_setSiphoning : MethodName := ⟨RX9, "setSiphoning", "(IZ)V"⟩
def RX10 : String := "HeronsBench$Works"
def TX10 : u_T := fun k => match k with
  | 0 => ("HeronsBench$Works", "plan", "LHeronsBench$Plan;", true)
  | 1 => ("HeronsBench$Works", "water", "LHeronsBench$Water;", true)
  | 2 => ("HeronsBench$Works", "ins", "[I", true)
  | 3 => ("HeronsBench$Works", "changes", "[I", true)
  | 4 => ("HeronsBench$Works", "floods", "[I", true)
  | 5 => ("HeronsBench$Works", "flows", "[I", true)
  | 6 => ("HeronsBench$Works", "springRate", "I", false)
  | 7 => ("HeronsBench$Works", "drainRate", "I", false)
  | 8 => ("HeronsBench$Works", "gap", "J", false)
  | 9 => ("HeronsBench$Works", "speed", "J", false)
  | 10 => ("HeronsBench$Works", "happenedKinds", "[I", true)
  | 11 => ("HeronsBench$Works", "happenedVessels", "[I", true)
  | _ => ("HeronsBench$Works", "happened", "I", false)
def tyX10 : Nat → FieldType := fun k => match k with
  | 0 => .object "HeronsBench$Plan"
  | 1 => .object "HeronsBench$Water"
  | 2 => .array .int
  | 3 => .array .int
  | 4 => .array .int
  | 5 => .array .int
  | 6 => .int
  | 7 => .int
  | 8 => .long
  | 9 => .long
  | 10 => .array .int
  | 11 => .array .int
  | _ => .int
abbrev wsX100 : List Cond := u_ws RX10 TX10 13
theorem nmX10 : ∀ a, a < 13 → ∀ b, b < 13 → a ≠ b → (TX10 a).2.1 ≠ (TX10 b).2.1 := by decide +kernel
theorem tyX10_ok : ∀ k, k < 13 → parseFieldDescriptor (TX10 k).2.2.1 = some (tyX10 k) := by decide +kernel
abbrev cX10_init : ByteArray := prog_12_method_1_code
def yX10_init : MethodName := ⟨RX10, "<init>", "(LHeronsBench$Plan;)V"⟩
abbrev cX10_runs : ByteArray := prog_12_method_2_code
def yX10_runs : MethodName := ⟨RX10, "runs", "(I)Z"⟩
abbrev cX10_reckonRates : ByteArray := prog_12_method_3_code
def yX10_reckonRates : MethodName := ⟨RX10, "reckonRates", "()V"⟩
abbrev cX10_reckonVessel : ByteArray := prog_12_method_4_code
def yX10_reckonVessel : MethodName := ⟨RX10, "reckonVessel", "(I)V"⟩
abbrev cX10_bring : ByteArray := prog_12_method_5_code
def yX10_bring : MethodName := ⟨RX10, "bring", "(II)V"⟩
abbrev cX10_isFull : ByteArray := prog_12_method_6_code
def yX10_isFull : MethodName := ⟨RX10, "isFull", "(I)Z"⟩
abbrev cX10_seekNext : ByteArray := prog_12_method_7_code
def yX10_seekNext : MethodName := ⟨RX10, "seekNext", "()V"⟩
abbrev cX10_seekRise : ByteArray := prog_12_method_8_code
def yX10_seekRise : MethodName := ⟨RX10, "seekRise", "(I)V"⟩
abbrev cX10_seekFall : ByteArray := prog_12_method_9_code
def yX10_seekFall : MethodName := ⟨RX10, "seekFall", "(I)V"⟩
abbrev cX10_ownIs : ByteArray := prog_12_method_10_code
def yX10_ownIs : MethodName := ⟨RX10, "ownIs", "(IZ)Z"⟩
abbrev cX10_offer : ByteArray := prog_12_method_11_code
def yX10_offer : MethodName := ⟨RX10, "offer", "(JJ)V"⟩
abbrev cX10_rests : ByteArray := prog_12_method_12_code
def yX10_rests : MethodName := ⟨RX10, "rests", "()Z"⟩
abbrev cX10_nextMomentAbove : ByteArray := prog_12_method_13_code
def yX10_nextMomentAbove : MethodName := ⟨RX10, "nextMomentAbove", "()J"⟩
abbrev cX10_nextMomentBelow : ByteArray := prog_12_method_14_code
def yX10_nextMomentBelow : MethodName := ⟨RX10, "nextMomentBelow", "()J"⟩
abbrev cX10_nextIsBehind : ByteArray := prog_12_method_15_code
def yX10_nextIsBehind : MethodName := ⟨RX10, "nextIsBehind", "(I)Z"⟩
abbrev cX10_isBehind : ByteArray := prog_12_method_16_code
def yX10_isBehind : MethodName := ⟨RX10, "isBehind", "(I)Z"⟩
abbrev cX10_isAt : ByteArray := prog_12_method_17_code
def yX10_isAt : MethodName := ⟨RX10, "isAt", "(I)Z"⟩
abbrev cX10_isAhead : ByteArray := prog_12_method_18_code
def yX10_isAhead : MethodName := ⟨RX10, "isAhead", "(I)Z"⟩
abbrev cX10_inVessels : ByteArray := prog_12_method_19_code
def yX10_inVessels : MethodName := ⟨RX10, "inVessels", "()J"⟩
abbrev cX10_step : ByteArray := prog_12_method_20_code
def yX10_step : MethodName := ⟨RX10, "step", "()Z"⟩
abbrev cX10_passTo : ByteArray := prog_12_method_21_code
def yX10_passTo : MethodName := ⟨RX10, "passTo", "(I)V"⟩
abbrev cX10_advance : ByteArray := prog_12_method_22_code
def yX10_advance : MethodName := ⟨RX10, "advance", "(JJ)Z"⟩
abbrev cX10_commonBehind : ByteArray := prog_12_method_23_code
def yX10_commonBehind : MethodName := ⟨RX10, "commonBehind", "(JJJ)J"⟩
abbrev cX10_settle : ByteArray := prog_12_method_24_code
def yX10_settle : MethodName := ⟨RX10, "settle", "()V"⟩
abbrev cX10_tip : ByteArray := prog_12_method_25_code
def yX10_tip : MethodName := ⟨RX10, "tip", "(I)V"⟩
abbrev cX10_pourTo : ByteArray := prog_12_method_26_code
def yX10_pourTo : MethodName := ⟨RX10, "pourTo", "(IJ)V"⟩
abbrev cX10_settleSiphon : ByteArray := prog_12_method_27_code
def yX10_settleSiphon : MethodName := ⟨RX10, "settleSiphon", "(I)V"⟩
abbrev cX10_settleFloat : ByteArray := prog_12_method_28_code
def yX10_settleFloat : MethodName := ⟨RX10, "settleFloat", "(I)V"⟩
abbrev cX10_happen : ByteArray := prog_12_method_29_code
def yX10_happen : MethodName := ⟨RX10, "happen", "(II)V"⟩
abbrev cX10_hasHappened : ByteArray := prog_12_method_30_code
def yX10_hasHappened : MethodName := ⟨RX10, "hasHappened", "(II)Z"⟩
def RX11 : String := "HeronsBench"
def TX11 : u_T := fun k => match k with
  | 0 => ("HeronsBench", "plan", "LHeronsBench$Plan;", true)
  | 1 => ("HeronsBench", "live", "LHeronsBench$Works;", true)
  | 2 => ("HeronsBench", "trial", "LHeronsBench$Works;", true)
  | 3 => ("HeronsBench", "log", "LHeronsBench$Log;", true)
  | 4 => ("HeronsBench", "rounds", "LHeronsBench$Rounds;", true)
  | 5 => ("HeronsBench", "actRun", "LHeronsBench$ActRun;", true)
  | 6 => ("HeronsBench", "actsByKind", "[LHeronsBench$VesselActs;", true)
  | _ => ("HeronsBench", "statusNow", "I", false)
def tyX11 : Nat → FieldType := fun k => match k with
  | 0 => .object "HeronsBench$Plan"
  | 1 => .object "HeronsBench$Works"
  | 2 => .object "HeronsBench$Works"
  | 3 => .object "HeronsBench$Log"
  | 4 => .object "HeronsBench$Rounds"
  | 5 => .object "HeronsBench$ActRun"
  | 6 => .array (.object "HeronsBench$VesselActs")
  | _ => .int
abbrev wsX110 : List Cond := u_ws RX11 TX11 8
theorem nmX11 : ∀ a, a < 8 → ∀ b, b < 8 → a ≠ b → (TX11 a).2.1 ≠ (TX11 b).2.1 := by decide +kernel
theorem tyX11_ok : ∀ k, k < 8 → parseFieldDescriptor (TX11 k).2.2.1 = some (tyX11 k) := by decide +kernel
abbrev cX11_init : ByteArray := prog_1_method_1_code
def yX11_init : MethodName := ⟨RX11, "<init>", "()V"⟩
abbrev cX11_vessel : ByteArray := prog_1_method_2_code
def yX11_vessel : MethodName := ⟨RX11, "vessel", "(II)I"⟩
abbrev cX11_marks : ByteArray := prog_1_method_3_code
def yX11_marks : MethodName := ⟨RX11, "marks", "(III)I"⟩
abbrev cX11_own : ByteArray := prog_1_method_4_code
def yX11_own : MethodName := ⟨RX11, "own", "(II)I"⟩
abbrev cX11_tips : ByteArray := prog_1_method_5_code
def yX11_tips : MethodName := ⟨RX11, "tips", "(II)I"⟩
abbrev cX11_over : ByteArray := prog_1_method_6_code
def yX11_over : MethodName := ⟨RX11, "over", "(II)I"⟩
abbrev cX11_pipe : ByteArray := prog_1_method_7_code
def yX11_pipe : MethodName := ⟨RX11, "pipe", "(III)I"⟩
abbrev cX11_fill : ByteArray := prog_1_method_8_code
def yX11_fill : MethodName := ⟨RX11, "fill", "(II)I"⟩
abbrev cX11_shut : ByteArray := prog_1_method_9_code
def yX11_shut : MethodName := ⟨RX11, "shut", "(IZ)I"⟩
abbrev cX11_amount : ByteArray := prog_1_method_10_code
def yX11_amount : MethodName := ⟨RX11, "amount", "(II)I"⟩
abbrev cX11_go : ByteArray := prog_1_method_11_code
def yX11_go : MethodName := ⟨RX11, "go", "(I)I"⟩
abbrev cX11_now : ByteArray := prog_1_method_12_code
def yX11_now : MethodName := ⟨RX11, "now", "(I)I"⟩
abbrev cX11_next : ByteArray := prog_1_method_13_code
def yX11_next : MethodName := ⟨RX11, "next", "(I)J"⟩
abbrev cX11_level : ByteArray := prog_1_method_14_code
def yX11_level : MethodName := ⟨RX11, "level", "(II)I"⟩
abbrev cX11_rate : ByteArray := prog_1_method_15_code
def yX11_rate : MethodName := ⟨RX11, "rate", "(I)I"⟩
abbrev cX11_flow : ByteArray := prog_1_method_16_code
def yX11_flow : MethodName := ⟨RX11, "flow", "(I)I"⟩
abbrev cX11_flood : ByteArray := prog_1_method_17_code
def yX11_flood : MethodName := ⟨RX11, "flood", "(I)I"⟩
abbrev cX11_told : ByteArray := prog_1_method_18_code
def yX11_told : MethodName := ⟨RX11, "told", "(II)I"⟩
abbrev cX11_pipeTold : ByteArray := prog_1_method_19_code
def yX11_pipeTold : MethodName := ⟨RX11, "pipeTold", "(II)I"⟩
abbrev cX11_count : ByteArray := prog_1_method_20_code
def yX11_count : MethodName := ⟨RX11, "count", "(I)I"⟩
abbrev cX11_event : ByteArray := prog_1_method_21_code
def yX11_event : MethodName := ⟨RX11, "event", "(II)I"⟩
abbrev cX11_sum : ByteArray := prog_1_method_22_code
def yX11_sum : MethodName := ⟨RX11, "sum", "(I)J"⟩
abbrev cX11_round : ByteArray := prog_1_method_23_code
def yX11_round : MethodName := ⟨RX11, "round", "(I)I"⟩
abbrev cX11_tune : ByteArray := prog_1_method_24_code
def yX11_tune : MethodName := ⟨RX11, "tune", "(IIIII)I"⟩
abbrev cX11_act : ByteArray := prog_1_method_25_code
def yX11_act : MethodName := ⟨RX11, "act", "(III)I"⟩
abbrev cX11_trace : ByteArray := prog_1_method_26_code
def yX11_trace : MethodName := ⟨RX11, "trace", "(I)I"⟩
abbrev cX11_forge : ByteArray := prog_1_method_27_code
def yX11_forge : MethodName := ⟨RX11, "forge", "(III)I"⟩
abbrev cX11_status : ByteArray := prog_1_method_28_code
def yX11_status : MethodName := ⟨RX11, "status", "()I"⟩
abbrev cX11_refused : ByteArray := prog_1_method_29_code
def yX11_refused : MethodName := ⟨RX11, "refused", "(I)I"⟩
abbrev cX11_answered : ByteArray := prog_1_method_30_code
def yX11_answered : MethodName := ⟨RX11, "answered", "(I)I"⟩
abbrev cX11_handDid : ByteArray := prog_1_method_31_code
def yX11_handDid : MethodName := ⟨RX11, "handDid", "(I)I"⟩
abbrev cX11_firstShutsAt : ByteArray := prog_1_method_32_code
def yX11_firstShutsAt : MethodName := ⟨RX11, "firstShutsAt", "(II)Z"⟩
abbrev cX11_takenFor : ByteArray := prog_1_method_33_code
def yX11_takenFor : MethodName := ⟨RX11, "takenFor", "(II)I"⟩
abbrev cX11_copiedBrims : ByteArray := prog_1_method_34_code
def yX11_copiedBrims : MethodName := ⟨RX11, "copiedBrims", "(II)I"⟩
abbrev cX11_putAmongFloats : ByteArray := prog_1_method_35_code
def yX11_putAmongFloats : MethodName := ⟨RX11, "putAmongFloats", "(I)I"⟩
abbrev cX11_within : ByteArray := prog_1_method_36_code
def yX11_within : MethodName := ⟨RX11, "within", "(III)Z"⟩
abbrev cX11_asNumber : ByteArray := prog_1_method_37_code
def yX11_asNumber : MethodName := ⟨RX11, "asNumber", "(Z)I"⟩
abbrev cX11_isKindOrUnder : ByteArray := prog_1_method_38_code
def yX11_isKindOrUnder : MethodName := ⟨RX11, "isKindOrUnder", "(II)Z"⟩
abbrev cX11_gcd : ByteArray := prog_1_method_39_code
def yX11_gcd : MethodName := ⟨RX11, "gcd", "(JJ)J"⟩
abbrev cX11_above : ByteArray := prog_1_method_40_code
def yX11_above : MethodName := ⟨RX11, "above", "(JJ)J"⟩
abbrev cX11_below : ByteArray := prog_1_method_41_code
def yX11_below : MethodName := ⟨RX11, "below", "(JJ)J"⟩
abbrev cX11_part : ByteArray := prog_1_method_42_code
def yX11_part : MethodName := ⟨RX11, "part", "(JJI)J"⟩
def RX12 : String := "HeronsBenchModel"
def TX12 : u_T := fun k => match k with
  | 0 => ("HeronsBenchModel", "vessels", "I", false)
  | 1 => ("HeronsBenchModel", "kind", "[I", true)
  | 2 => ("HeronsBenchModel", "brim", "[I", true)
  | 3 => ("HeronsBenchModel", "high", "[I", true)
  | 4 => ("HeronsBenchModel", "low", "[I", true)
  | 5 => ("HeronsBenchModel", "own", "[I", true)
  | 6 => ("HeronsBenchModel", "tip", "[I", true)
  | 7 => ("HeronsBenchModel", "over", "[I", true)
  | 8 => ("HeronsBenchModel", "pipes", "I", false)
  | 9 => ("HeronsBenchModel", "from", "[I", true)
  | 10 => ("HeronsBenchModel", "to", "[I", true)
  | 11 => ("HeronsBenchModel", "amount", "[I", true)
  | 12 => ("HeronsBenchModel", "grain", "J", false)
  | 13 => ("HeronsBenchModel", "time", "J", false)
  | 14 => ("HeronsBenchModel", "spring", "J", false)
  | 15 => ("HeronsBenchModel", "drain", "J", false)
  | 16 => ("HeronsBenchModel", "level", "[J", true)
  | 17 => ("HeronsBenchModel", "isOpen", "[Z", true)
  | 18 => ("HeronsBenchModel", "isSiphoning", "[Z", true)
  | 19 => ("HeronsBenchModel", "counted", "[I", true)
  | 20 => ("HeronsBenchModel", "events", "I", false)
  | 21 => ("HeronsBenchModel", "hands", "J", false)
  | 22 => ("HeronsBenchModel", "records", "Z", false)
  | 23 => ("HeronsBenchModel", "eventKind", "[I", true)
  | 24 => ("HeronsBenchModel", "eventVessel", "[I", true)
  | 25 => ("HeronsBenchModel", "eventTime", "[J", true)
  | 26 => ("HeronsBenchModel", "eventGrain", "[J", true)
  | 27 => ("HeronsBenchModel", "status", "I", false)
  | 28 => ("HeronsBenchModel", "traced", "[I", true)
  | 29 => ("HeronsBenchModel", "traces", "I", false)
  | 30 => ("HeronsBenchModel", "came", "[I", true)
  | 31 => ("HeronsBenchModel", "change", "[I", true)
  | 32 => ("HeronsBenchModel", "floods", "[I", true)
  | 33 => ("HeronsBenchModel", "flows", "[I", true)
  | 34 => ("HeronsBenchModel", "springRate", "I", false)
  | 35 => ("HeronsBenchModel", "drainRate", "I", false)
  | 36 => ("HeronsBenchModel", "nextAbove", "J", false)
  | 37 => ("HeronsBenchModel", "nextBelow", "J", false)
  | 38 => ("HeronsBenchModel", "isRest", "Z", false)
  | 39 => ("HeronsBenchModel", "common", "J", false)
  | 40 => ("HeronsBenchModel", "then", "[J", true)
  | 41 => ("HeronsBenchModel", "sought", "I", false)
  | 42 => ("HeronsBenchModel", "soughtShut", "Z", false)
  | 43 => ("HeronsBenchModel", "keptGrain", "J", false)
  | 44 => ("HeronsBenchModel", "keptTime", "J", false)
  | 45 => ("HeronsBenchModel", "keptSpring", "J", false)
  | 46 => ("HeronsBenchModel", "keptDrain", "J", false)
  | 47 => ("HeronsBenchModel", "keptEvents", "I", false)
  | 48 => ("HeronsBenchModel", "keptLevel", "[J", true)
  | 49 => ("HeronsBenchModel", "keptOpen", "[Z", true)
  | 50 => ("HeronsBenchModel", "keptSiphoning", "[Z", true)
  | 51 => ("HeronsBenchModel", "keptCounted", "[I", true)
  | 52 => ("HeronsBenchModel", "states", "[J", true)
  | 53 => ("HeronsBenchModel", "roundFrom", "I", false)
  | _ => ("HeronsBenchModel", "roundTo", "I", false)
def tyX12 : Nat → FieldType := fun k => match k with
  | 0 => .int
  | 1 => .array .int
  | 2 => .array .int
  | 3 => .array .int
  | 4 => .array .int
  | 5 => .array .int
  | 6 => .array .int
  | 7 => .array .int
  | 8 => .int
  | 9 => .array .int
  | 10 => .array .int
  | 11 => .array .int
  | 12 => .long
  | 13 => .long
  | 14 => .long
  | 15 => .long
  | 16 => .array .long
  | 17 => .array .boolean
  | 18 => .array .boolean
  | 19 => .array .int
  | 20 => .int
  | 21 => .long
  | 22 => .boolean
  | 23 => .array .int
  | 24 => .array .int
  | 25 => .array .long
  | 26 => .array .long
  | 27 => .int
  | 28 => .array .int
  | 29 => .int
  | 30 => .array .int
  | 31 => .array .int
  | 32 => .array .int
  | 33 => .array .int
  | 34 => .int
  | 35 => .int
  | 36 => .long
  | 37 => .long
  | 38 => .boolean
  | 39 => .long
  | 40 => .array .long
  | 41 => .int
  | 42 => .boolean
  | 43 => .long
  | 44 => .long
  | 45 => .long
  | 46 => .long
  | 47 => .int
  | 48 => .array .long
  | 49 => .array .boolean
  | 50 => .array .boolean
  | 51 => .array .int
  | 52 => .array .long
  | 53 => .int
  | _ => .int
abbrev wsX120 : List Cond := u_ws RX12 TX12 55
theorem nmX12 : ∀ a, a < 55 → ∀ b, b < 55 → a ≠ b → (TX12 a).2.1 ≠ (TX12 b).2.1 := by decide +kernel
theorem tyX12_ok : ∀ k, k < 55 → parseFieldDescriptor (TX12 k).2.2.1 = some (tyX12 k) := by decide +kernel
abbrev cX12_init : ByteArray := prog_14_method_1_code
def yX12_init : MethodName := ⟨RX12, "<init>", "()V"⟩
abbrev cX12_in : ByteArray := prog_14_method_2_code
def yX12_in : MethodName := ⟨RX12, "in", "(III)Z"⟩
abbrev cX12_refused : ByteArray := prog_14_method_3_code
def yX12_refused : MethodName := ⟨RX12, "refused", "(I)I"⟩
abbrev cX12_done : ByteArray := prog_14_method_4_code
def yX12_done : MethodName := ⟨RX12, "done", "(I)I"⟩
abbrev cX12_isVessel : ByteArray := prog_14_method_5_code
def yX12_isVessel : MethodName := ⟨RX12, "isVessel", "(I)Z"⟩
abbrev cX12_isPipe : ByteArray := prog_14_method_6_code
def yX12_isPipe : MethodName := ⟨RX12, "isPipe", "(I)Z"⟩
abbrev cX12_divisor : ByteArray := prog_14_method_7_code
def yX12_divisor : MethodName := ⟨RX12, "divisor", "(JJ)J"⟩
abbrev cX12_isFloat : ByteArray := prog_14_method_8_code
def yX12_isFloat : MethodName := ⟨RX12, "isFloat", "(I)Z"⟩
abbrev cX12_runs : ByteArray := prog_14_method_9_code
def yX12_runs : MethodName := ⟨RX12, "runs", "(I)Z"⟩
abbrev cX12_goesTo : ByteArray := prog_14_method_10_code
def yX12_goesTo : MethodName := ⟨RX12, "goesTo", "(II)V"⟩
abbrev cX12_rates : ByteArray := prog_14_method_11_code
def yX12_rates : MethodName := ⟨RX12, "rates", "()V"⟩
abbrev cX12_rateOf : ByteArray := prog_14_method_12_code
def yX12_rateOf : MethodName := ⟨RX12, "rateOf", "(I)V"⟩
abbrev cX12_may : ByteArray := prog_14_method_13_code
def yX12_may : MethodName := ⟨RX12, "may", "(JI)V"⟩
abbrev cX12_seek : ByteArray := prog_14_method_14_code
def yX12_seek : MethodName := ⟨RX12, "seek", "()V"⟩
abbrev cX12_moved : ByteArray := prog_14_method_15_code
def yX12_moved : MethodName := ⟨RX12, "moved", "(JJJJJ)J"⟩
abbrev cX12_passes : ByteArray := prog_14_method_16_code
def yX12_passes : MethodName := ⟨RX12, "passes", "(JJ)Z"⟩
abbrev cX12_lowest : ByteArray := prog_14_method_17_code
def yX12_lowest : MethodName := ⟨RX12, "lowest", "()V"⟩
abbrev cX12_pour : ByteArray := prog_14_method_18_code
def yX12_pour : MethodName := ⟨RX12, "pour", "(IJ)V"⟩
abbrev cX12_note : ByteArray := prog_14_method_19_code
def yX12_note : MethodName := ⟨RX12, "note", "(II)V"⟩
abbrev cX12_moment : ByteArray := prog_14_method_20_code
def yX12_moment : MethodName := ⟨RX12, "moment", "()V"⟩
abbrev cX12_floats : ByteArray := prog_14_method_21_code
def yX12_floats : MethodName := ⟨RX12, "floats", "(I)V"⟩
abbrev cX12_hand : ByteArray := prog_14_method_22_code
def yX12_hand : MethodName := ⟨RX12, "hand", "(I)I"⟩
abbrev cX12_vessel : ByteArray := prog_14_method_23_code
def yX12_vessel : MethodName := ⟨RX12, "vessel", "(II)I"⟩
abbrev cX12_marks : ByteArray := prog_14_method_24_code
def yX12_marks : MethodName := ⟨RX12, "marks", "(III)I"⟩
abbrev cX12_own : ByteArray := prog_14_method_25_code
def yX12_own : MethodName := ⟨RX12, "own", "(II)I"⟩
abbrev cX12_isBehind : ByteArray := prog_14_method_26_code
def yX12_isBehind : MethodName := ⟨RX12, "isBehind", "(II)Z"⟩
abbrev cX12_tips : ByteArray := prog_14_method_27_code
def yX12_tips : MethodName := ⟨RX12, "tips", "(II)I"⟩
abbrev cX12_over : ByteArray := prog_14_method_28_code
def yX12_over : MethodName := ⟨RX12, "over", "(II)I"⟩
abbrev cX12_pipe : ByteArray := prog_14_method_29_code
def yX12_pipe : MethodName := ⟨RX12, "pipe", "(III)I"⟩
abbrev cX12_fill : ByteArray := prog_14_method_30_code
def yX12_fill : MethodName := ⟨RX12, "fill", "(II)I"⟩
abbrev cX12_shut : ByteArray := prog_14_method_31_code
def yX12_shut : MethodName := ⟨RX12, "shut", "(IZ)I"⟩
abbrev cX12_amount : ByteArray := prog_14_method_32_code
def yX12_amount : MethodName := ⟨RX12, "amount", "(II)I"⟩
abbrev cX12_step : ByteArray := prog_14_method_33_code
def yX12_step : MethodName := ⟨RX12, "step", "(J)I"⟩
abbrev cX12_go : ByteArray := prog_14_method_34_code
def yX12_go : MethodName := ⟨RX12, "go", "(I)I"⟩
abbrev cX12_part : ByteArray := prog_14_method_35_code
def yX12_part : MethodName := ⟨RX12, "part", "(JJI)J"⟩
abbrev cX12_now : ByteArray := prog_14_method_36_code
def yX12_now : MethodName := ⟨RX12, "now", "(I)I"⟩
abbrev cX12_next : ByteArray := prog_14_method_37_code
def yX12_next : MethodName := ⟨RX12, "next", "(I)J"⟩
abbrev cX12_level : ByteArray := prog_14_method_38_code
def yX12_level : MethodName := ⟨RX12, "level", "(II)I"⟩
abbrev cX12_rate : ByteArray := prog_14_method_39_code
def yX12_rate : MethodName := ⟨RX12, "rate", "(I)I"⟩
abbrev cX12_flow : ByteArray := prog_14_method_40_code
def yX12_flow : MethodName := ⟨RX12, "flow", "(I)I"⟩
abbrev cX12_flood : ByteArray := prog_14_method_41_code
def yX12_flood : MethodName := ⟨RX12, "flood", "(I)I"⟩
abbrev cX12_told : ByteArray := prog_14_method_42_code
def yX12_told : MethodName := ⟨RX12, "told", "(II)I"⟩
abbrev cX12_pipeTold : ByteArray := prog_14_method_43_code
def yX12_pipeTold : MethodName := ⟨RX12, "pipeTold", "(II)I"⟩
abbrev cX12_count : ByteArray := prog_14_method_44_code
def yX12_count : MethodName := ⟨RX12, "count", "(I)I"⟩
abbrev cX12_event : ByteArray := prog_14_method_45_code
def yX12_event : MethodName := ⟨RX12, "event", "(II)I"⟩
abbrev cX12_sum : ByteArray := prog_14_method_46_code
def yX12_sum : MethodName := ⟨RX12, "sum", "(I)J"⟩
abbrev cX12_keep : ByteArray := prog_14_method_47_code
def yX12_keep : MethodName := ⟨RX12, "keep", "()V"⟩
abbrev cX12_back : ByteArray := prog_14_method_48_code
def yX12_back : MethodName := ⟨RX12, "back", "()V"⟩
abbrev cX12_put : ByteArray := prog_14_method_49_code
def yX12_put : MethodName := ⟨RX12, "put", "(I)V"⟩
abbrev cX12_isSame : ByteArray := prog_14_method_50_code
def yX12_isSame : MethodName := ⟨RX12, "isSame", "(II)Z"⟩
abbrev cX12_seekRound : ByteArray := prog_14_method_51_code
def yX12_seekRound : MethodName := ⟨RX12, "seekRound", "()I"⟩
abbrev cX12_round : ByteArray := prog_14_method_52_code
def yX12_round : MethodName := ⟨RX12, "round", "(I)I"⟩
abbrev cX12_shutsAt : ByteArray := prog_14_method_53_code
def yX12_shutsAt : MethodName := ⟨RX12, "shutsAt", "(I)Z"⟩
abbrev cX12_tune : ByteArray := prog_14_method_54_code
def yX12_tune : MethodName := ⟨RX12, "tune", "(IIIII)I"⟩
abbrev cX12_ran : ByteArray := prog_14_method_55_code
def yX12_ran : MethodName := ⟨RX12, "ran", "(I)V"⟩
abbrev cX12_vesselFill : ByteArray := prog_14_method_56_code
def yX12_vesselFill : MethodName := ⟨RX12, "vesselFill", "(II)I"⟩
abbrev cX12_fill0 : ByteArray := prog_14_method_57_code
def yX12_fill0 : MethodName := ⟨RX12, "fill0", "(II)I"⟩
abbrev cX12_vesselTurn : ByteArray := prog_14_method_58_code
def yX12_vesselTurn : MethodName := ⟨RX12, "vesselTurn", "(II)I"⟩
abbrev cX12_turn0 : ByteArray := prog_14_method_59_code
def yX12_turn0 : MethodName := ⟨RX12, "turn0", "(II)I"⟩
abbrev cX12_count0 : ByteArray := prog_14_method_60_code
def yX12_count0 : MethodName := ⟨RX12, "count0", "(II)I"⟩
abbrev cX12_tell0 : ByteArray := prog_14_method_61_code
def yX12_tell0 : MethodName := ⟨RX12, "tell0", "(II)I"⟩
abbrev cX12_act : ByteArray := prog_14_method_62_code
def yX12_act : MethodName := ⟨RX12, "act", "(III)I"⟩
abbrev cX12_trace : ByteArray := prog_14_method_63_code
def yX12_trace : MethodName := ⟨RX12, "trace", "(I)I"⟩
abbrev cX12_modulo : ByteArray := prog_14_method_64_code
def yX12_modulo : MethodName := ⟨RX12, "modulo", "(II)I"⟩
abbrev cX12_sumOf : ByteArray := prog_14_method_65_code
def yX12_sumOf : MethodName := ⟨RX12, "sumOf", "(II)I"⟩
abbrev cX12_forge : ByteArray := prog_14_method_66_code
def yX12_forge : MethodName := ⟨RX12, "forge", "(III)I"⟩
abbrev cX12_status : ByteArray := prog_14_method_67_code
def yX12_status : MethodName := ⟨RX12, "status", "()I"⟩
def RJ9 : String := "java/lang/Math"
def TJ9 : u_T := fun k => match k with
  | _ => ("", "", "", false)
def tyJ9 : Nat → FieldType := fun k => match k with
  | _ => .int
abbrev wsJ90 : List Cond := u_ws RJ9 TJ9 0
theorem nmJ9 : ∀ a, a < 0 → ∀ b, b < 0 → a ≠ b → (TJ9 a).2.1 ≠ (TJ9 b).2.1 := by decide +kernel
theorem tyJ9_ok : ∀ k, k < 0 → parseFieldDescriptor (TJ9 k).2.2.1 = some (tyJ9 k) := by decide +kernel
abbrev cJ9_floorMod_7cf53 : ByteArray := prog_15_method_50_code
def yJ9_floorMod_7cf53 : MethodName := ⟨RJ9, "floorMod", "(II)I"⟩
abbrev cJ9_min_7cf53 : ByteArray := prog_15_method_69_code
def yJ9_min_7cf53 : MethodName := ⟨RJ9, "min", "(II)I"⟩
abbrev cJ9_min_f86c9 : ByteArray := prog_15_method_70_code
def yJ9_min_f86c9 : MethodName := ⟨RJ9, "min", "(JJ)J"⟩
def RJ10 : String := "java/lang/System"
def TJ10 : u_T := fun k => match k with
  | _ => ("", "", "", false)
def tyJ10 : Nat → FieldType := fun k => match k with
  | _ => .int
abbrev wsJ100 : List Cond := u_ws RJ10 TJ10 0
theorem nmJ10 : ∀ a, a < 0 → ∀ b, b < 0 → a ≠ b → (TJ10 a).2.1 ≠ (TJ10 b).2.1 := by decide +kernel
theorem tyJ10_ok : ∀ k, k < 0 → parseFieldDescriptor (TJ10 k).2.2.1 = some (tyJ10 k) := by decide +kernel
def RL : String := "HeronsBenchLaw"
abbrev cL_law : ByteArray := code
def yL_law : MethodName := ⟨RL, "law", "([I)Z"⟩
abbrev vwCl : List vw_C := [(RX0, TX0, 6), (RX1, TX1, 1), (RX2, TX2, 1), (RX3, TX3, 5), (RX4, TX4, 11), (RX5, TX5, 9), (RX6, TX6, 1), (RX7, TX7, 1), (RX8, TX8, 1), (RX9, TX9, 10), (RX10, TX10, 13), (RX11, TX11, 8), (RX12, TX12, 55)]
end
section
/-! the methods by number: 0 X0_init; 1 X0_begin; 2 X0_began; 3 X1_init; 4 X1_countBody; 5 X1_turnBody; 6 X2_init; 7 X2_countBody; 8 X2_fillBody; 9 X3_init; 10 X3_take; 11 X3_toldOf; 12 X4_init; 13 X4_hasVessel; 14 X4_hasPipe; 15 X4_kindOf; 16 X4_brimOf; 17 X4_isFloat; 18 X4_hasHigh; 19 X4_liesBelow; 20 X4_addVessel; 21 X4_addPipe; 22 X4_siphonOf; 23 X4_toldOf; 24 X5_init; 25 X5_seek; 26 X5_toldOf; 27 X5_keep; 28 X5_firstLike; 29 X5_isLike; 30 X5_tell; 31 X6_init; 32 X6_turnBody; 33 X6_tellBody; 34 X7_init; 35 X7_fillBody; 36 X8_init; 37 X8_fillBody; 38 X8_turnBody; 39 X8_countBody; 40 X8_tellBody; 41 X9_init; 42 X9_takeOver; 43 X9_isOpen; 44 X9_setOpen; 45 X9_isSiphoning; 46 X9_setSiphoning; 47 X10_init; 48 X10_runs; 49 X10_reckonRates; 50 X10_reckonVessel; 51 X10_bring; 52 X10_isFull; 53 X10_seekNext; 54 X10_seekRise; 55 X10_seekFall; 56 X10_ownIs; 57 X10_offer; 58 X10_rests; 59 X10_nextMomentAbove; 60 X10_nextMomentBelow; 61 X10_nextIsBehind; 62 X10_isBehind; 63 X10_isAt; 64 X10_isAhead; 65 X10_inVessels; 66 X10_step; 67 X10_passTo; 68 X10_advance; 69 X10_commonBehind; 70 X10_settle; 71 X10_tip; 72 X10_pourTo; 73 X10_settleSiphon; 74 X10_settleFloat; 75 X10_happen; 76 X10_hasHappened; 77 X11_init; 78 X11_vessel; 79 X11_marks; 80 X11_own; 81 X11_tips; 82 X11_over; 83 X11_pipe; 84 X11_fill; 85 X11_shut; 86 X11_amount; 87 X11_go; 88 X11_now; 89 X11_next; 90 X11_level; 91 X11_rate; 92 X11_flow; 93 X11_flood; 94 X11_told; 95 X11_pipeTold; 96 X11_count; 97 X11_event; 98 X11_sum; 99 X11_round; 100 X11_tune; 101 X11_act; 102 X11_trace; 103 X11_forge; 104 X11_status; 105 X11_refused; 106 X11_answered; 107 X11_handDid; 108 X11_firstShutsAt; 109 X11_takenFor; 110 X11_copiedBrims; 111 X11_putAmongFloats; 112 X11_within; 113 X11_asNumber; 114 X11_isKindOrUnder; 115 X11_gcd; 116 X11_above; 117 X11_below; 118 X11_part; 119 X12_init; 120 X12_in; 121 X12_refused; 122 X12_done; 123 X12_isVessel; 124 X12_isPipe; 125 X12_divisor; 126 X12_isFloat; 127 X12_runs; 128 X12_goesTo; 129 X12_rates; 130 X12_rateOf; 131 X12_may; 132 X12_seek; 133 X12_moved; 134 X12_passes; 135 X12_lowest; 136 X12_pour; 137 X12_note; 138 X12_moment; 139 X12_floats; 140 X12_hand; 141 X12_vessel; 142 X12_marks; 143 X12_own; 144 X12_isBehind; 145 X12_tips; 146 X12_over; 147 X12_pipe; 148 X12_fill; 149 X12_shut; 150 X12_amount; 151 X12_step; 152 X12_go; 153 X12_part; 154 X12_now; 155 X12_next; 156 X12_level; 157 X12_rate; 158 X12_flow; 159 X12_flood; 160 X12_told; 161 X12_pipeTold; 162 X12_count; 163 X12_event; 164 X12_sum; 165 X12_keep; 166 X12_back; 167 X12_put; 168 X12_isSame; 169 X12_seekRound; 170 X12_round; 171 X12_shutsAt; 172 X12_tune; 173 X12_ran; 174 X12_vesselFill; 175 X12_fill0; 176 X12_vesselTurn; 177 X12_turn0; 178 X12_count0; 179 X12_tell0; 180 X12_act; 181 X12_trace; 182 X12_modulo; 183 X12_sumOf; 184 X12_forge; 185 X12_status; 186 J9_floorMod_7cf53; 187 J9_min_7cf53; 188 J9_min_f86c9; 189 L_law -/
def zyl : List MethodName := [yX0_init, yX0_begin, yX0_began, yX1_init, yX1_countBody, yX1_turnBody, yX2_init, yX2_countBody, yX2_fillBody, yX3_init, yX3_take, yX3_toldOf, yX4_init, yX4_hasVessel, yX4_hasPipe, yX4_kindOf, yX4_brimOf, yX4_isFloat, yX4_hasHigh, yX4_liesBelow, yX4_addVessel, yX4_addPipe, yX4_siphonOf, yX4_toldOf, yX5_init, yX5_seek, yX5_toldOf, yX5_keep, yX5_firstLike, yX5_isLike, yX5_tell, yX6_init, yX6_turnBody, yX6_tellBody, yX7_init, yX7_fillBody, yX8_init, yX8_fillBody, yX8_turnBody, yX8_countBody, yX8_tellBody, yX9_init, yX9_takeOver, yX9_isOpen, yX9_setOpen, yX9_isSiphoning, yX9_setSiphoning, yX10_init, yX10_runs, yX10_reckonRates, yX10_reckonVessel, yX10_bring, yX10_isFull, yX10_seekNext, yX10_seekRise, yX10_seekFall, yX10_ownIs, yX10_offer, yX10_rests, yX10_nextMomentAbove, yX10_nextMomentBelow, yX10_nextIsBehind, yX10_isBehind, yX10_isAt, yX10_isAhead, yX10_inVessels, yX10_step, yX10_passTo, yX10_advance, yX10_commonBehind, yX10_settle, yX10_tip, yX10_pourTo, yX10_settleSiphon, yX10_settleFloat, yX10_happen, yX10_hasHappened, yX11_init, yX11_vessel, yX11_marks, yX11_own, yX11_tips, yX11_over, yX11_pipe, yX11_fill, yX11_shut, yX11_amount, yX11_go, yX11_now, yX11_next, yX11_level, yX11_rate, yX11_flow, yX11_flood, yX11_told, yX11_pipeTold, yX11_count, yX11_event, yX11_sum, yX11_round, yX11_tune, yX11_act, yX11_trace, yX11_forge, yX11_status, yX11_refused, yX11_answered, yX11_handDid, yX11_firstShutsAt, yX11_takenFor, yX11_copiedBrims, yX11_putAmongFloats, yX11_within, yX11_asNumber, yX11_isKindOrUnder, yX11_gcd, yX11_above, yX11_below, yX11_part, yX12_init, yX12_in, yX12_refused, yX12_done, yX12_isVessel, yX12_isPipe, yX12_divisor, yX12_isFloat, yX12_runs, yX12_goesTo, yX12_rates, yX12_rateOf, yX12_may, yX12_seek, yX12_moved, yX12_passes, yX12_lowest, yX12_pour, yX12_note, yX12_moment, yX12_floats, yX12_hand, yX12_vessel, yX12_marks, yX12_own, yX12_isBehind, yX12_tips, yX12_over, yX12_pipe, yX12_fill, yX12_shut, yX12_amount, yX12_step, yX12_go, yX12_part, yX12_now, yX12_next, yX12_level, yX12_rate, yX12_flow, yX12_flood, yX12_told, yX12_pipeTold, yX12_count, yX12_event, yX12_sum, yX12_keep, yX12_back, yX12_put, yX12_isSame, yX12_seekRound, yX12_round, yX12_shutsAt, yX12_tune, yX12_ran, yX12_vesselFill, yX12_fill0, yX12_vesselTurn, yX12_turn0, yX12_count0, yX12_tell0, yX12_act, yX12_trace, yX12_modulo, yX12_sumOf, yX12_forge, yX12_status, yJ9_floorMod_7cf53, yJ9_min_7cf53, yJ9_min_f86c9, yL_law]
def zcL : List ByteArray := [cX0_init, cX0_begin, cX0_began, cX1_init, cX1_countBody, cX1_turnBody, cX2_init, cX2_countBody, cX2_fillBody, cX3_init, cX3_take, cX3_toldOf, cX4_init, cX4_hasVessel, cX4_hasPipe, cX4_kindOf, cX4_brimOf, cX4_isFloat, cX4_hasHigh, cX4_liesBelow, cX4_addVessel, cX4_addPipe, cX4_siphonOf, cX4_toldOf, cX5_init, cX5_seek, cX5_toldOf, cX5_keep, cX5_firstLike, cX5_isLike, cX5_tell, cX6_init, cX6_turnBody, cX6_tellBody, cX7_init, cX7_fillBody, cX8_init, cX8_fillBody, cX8_turnBody, cX8_countBody, cX8_tellBody, cX9_init, cX9_takeOver, cX9_isOpen, cX9_setOpen, cX9_isSiphoning, cX9_setSiphoning, cX10_init, cX10_runs, cX10_reckonRates, cX10_reckonVessel, cX10_bring, cX10_isFull, cX10_seekNext, cX10_seekRise, cX10_seekFall, cX10_ownIs, cX10_offer, cX10_rests, cX10_nextMomentAbove, cX10_nextMomentBelow, cX10_nextIsBehind, cX10_isBehind, cX10_isAt, cX10_isAhead, cX10_inVessels, cX10_step, cX10_passTo, cX10_advance, cX10_commonBehind, cX10_settle, cX10_tip, cX10_pourTo, cX10_settleSiphon, cX10_settleFloat, cX10_happen, cX10_hasHappened, cX11_init, cX11_vessel, cX11_marks, cX11_own, cX11_tips, cX11_over, cX11_pipe, cX11_fill, cX11_shut, cX11_amount, cX11_go, cX11_now, cX11_next, cX11_level, cX11_rate, cX11_flow, cX11_flood, cX11_told, cX11_pipeTold, cX11_count, cX11_event, cX11_sum, cX11_round, cX11_tune, cX11_act, cX11_trace, cX11_forge, cX11_status, cX11_refused, cX11_answered, cX11_handDid, cX11_firstShutsAt, cX11_takenFor, cX11_copiedBrims, cX11_putAmongFloats, cX11_within, cX11_asNumber, cX11_isKindOrUnder, cX11_gcd, cX11_above, cX11_below, cX11_part, cX12_init, cX12_in, cX12_refused, cX12_done, cX12_isVessel, cX12_isPipe, cX12_divisor, cX12_isFloat, cX12_runs, cX12_goesTo, cX12_rates, cX12_rateOf, cX12_may, cX12_seek, cX12_moved, cX12_passes, cX12_lowest, cX12_pour, cX12_note, cX12_moment, cX12_floats, cX12_hand, cX12_vessel, cX12_marks, cX12_own, cX12_isBehind, cX12_tips, cX12_over, cX12_pipe, cX12_fill, cX12_shut, cX12_amount, cX12_step, cX12_go, cX12_part, cX12_now, cX12_next, cX12_level, cX12_rate, cX12_flow, cX12_flood, cX12_told, cX12_pipeTold, cX12_count, cX12_event, cX12_sum, cX12_keep, cX12_back, cX12_put, cX12_isSame, cX12_seekRound, cX12_round, cX12_shutsAt, cX12_tune, cX12_ran, cX12_vesselFill, cX12_fill0, cX12_vesselTurn, cX12_turn0, cX12_count0, cX12_tell0, cX12_act, cX12_trace, cX12_modulo, cX12_sumOf, cX12_forge, cX12_status, cJ9_floorMod_7cf53, cJ9_min_7cf53, cJ9_min_f86c9, cL_law]
def zNl : List Nat := [1, 4, 2, 2, 2, 2, 2, 2, 2, 1, 3, 3, 1, 2, 2, 2, 2, 3, 2, 3, 4, 4, 4, 3, 1, 4, 2, 3, 4, 4, 3, 2, 2, 2, 2, 2, 2, 2, 2, 2, 2, 1, 2, 2, 3, 2, 3, 2, 3, 2, 6, 3, 2, 2, 3, 2, 4, 5, 1, 1, 1, 2, 2, 2, 2, 4, 1, 2, 10, 10, 2, 4, 10, 2, 2, 3, 4, 1, 4, 4, 4, 3, 3, 7, 3, 4, 4, 4, 2, 2, 3, 2, 2, 2, 3, 3, 2, 3, 3, 3, 7, 6, 2, 4, 1, 2, 2, 2, 4, 4, 5, 2, 3, 1, 4, 11, 6, 6, 5, 1, 3, 2, 2, 2, 2, 10, 2, 4, 3, 2, 5, 6, 5, 13, 14, 2, 9, 3, 4, 2, 2, 4, 4, 3, 3, 3, 3, 6, 3, 4, 4, 3, 6, 7, 2, 4, 3, 2, 2, 2, 4, 3, 2, 4, 5, 2, 2, 5, 5, 4, 11, 4, 10, 2, 3, 3, 3, 3, 3, 5, 4, 2, 2, 5, 6, 1, 3, 2, 4, 4]
def zRt : List (Option FieldType) := [none, none, none, none, some .int, some .int, none, some .int, some .int, none, none, some .int, none, some .boolean, some .boolean, some .int, some .int, some .boolean, some .boolean, some .boolean, some .int, some .int, some .int, some .int, none, some .int, some .int, none, some .int, some .boolean, none, none, some .int, some .int, none, some .int, none, some .int, some .int, some .int, some .int, none, none, some .boolean, none, some .boolean, none, none, some .boolean, none, none, none, some .boolean, none, none, none, some .boolean, none, some .boolean, some .long, some .long, some .boolean, some .boolean, some .boolean, some .boolean, some .long, some .boolean, none, some .boolean, some .long, none, none, none, none, none, none, some .boolean, none, some .int, some .int, some .int, some .int, some .int, some .int, some .int, some .int, some .int, some .int, some .int, some .long, some .int, some .int, some .int, some .int, some .int, some .int, some .int, some .int, some .long, some .int, some .int, some .int, some .int, some .int, some .int, some .int, some .int, some .int, some .boolean, some .int, some .int, some .int, some .boolean, some .int, some .boolean, some .long, some .long, some .long, some .long, none, some .boolean, some .int, some .int, some .boolean, some .boolean, some .long, some .boolean, some .boolean, none, none, none, none, none, some .long, some .boolean, none, none, none, none, none, some .int, some .int, some .int, some .int, some .boolean, some .int, some .int, some .int, some .int, some .int, some .int, some .int, some .int, some .long, some .int, some .long, some .int, some .int, some .int, some .int, some .int, some .int, some .int, some .int, some .long, none, none, none, some .boolean, some .int, some .int, some .boolean, some .int, none, some .int, some .int, some .int, some .int, some .int, some .int, some .int, some .int, some .int, some .int, some .int, some .int, some .int, some .int, some .long, some .boolean]
def zRm : List Room := [⟨1, 1, 50, 20⟩, ⟨1, 0, 0, 21⟩, ⟨0, 0, 0, 0⟩, ⟨3, 0, 0, 62⟩, ⟨3, 0, 0, 63⟩, ⟨4, 0, 0, 84⟩, ⟨2, 0, 0, 41⟩, ⟨2, 0, 0, 42⟩, ⟨2, 0, 0, 42⟩, ⟨1, 4, 1600, 20⟩, ⟨2, 0, 0, 55⟩, ⟨0, 0, 0, 0⟩, ⟨1, 9, 84, 20⟩, ⟨0, 0, 0, 0⟩, ⟨0, 0, 0, 0⟩, ⟨0, 0, 0, 0⟩, ⟨1, 0, 0, 21⟩, ⟨0, 0, 0, 0⟩, ⟨1, 0, 0, 22⟩, ⟨1, 0, 0, 21⟩, ⟨0, 0, 0, 0⟩, ⟨0, 0, 0, 0⟩, ⟨0, 0, 0, 0⟩, ⟨2, 0, 0, 43⟩, ⟨1, 5, 1812, 20⟩, ⟨5, 0, 0, 129⟩, ⟨2, 0, 0, 55⟩, ⟨1, 0, 0, 40⟩, ⟨1, 0, 0, 23⟩, ⟨0, 0, 0, 0⟩, ⟨0, 0, 0, 0⟩, ⟨2, 0, 0, 41⟩, ⟨4, 0, 0, 84⟩, ⟨6, 0, 0, 126⟩, ⟨2, 0, 0, 41⟩, ⟨2, 0, 0, 42⟩, ⟨1, 0, 0, 20⟩, ⟨1, 0, 0, 21⟩, ⟨3, 0, 0, 63⟩, ⟨1, 0, 0, 21⟩, ⟨5, 0, 0, 105⟩, ⟨1, 3, 30, 20⟩, ⟨1, 0, 0, 40⟩, ⟨0, 0, 0, 0⟩, ⟨0, 0, 0, 0⟩, ⟨0, 0, 0, 0⟩, ⟨0, 0, 0, 0⟩, ⟨2, 10, 94, 40⟩, ⟨1, 0, 0, 23⟩, ⟨3, 0, 0, 70⟩, ⟨2, 0, 0, 45⟩, ⟨1, 0, 0, 21⟩, ⟨0, 0, 0, 0⟩, ⟨4, 0, 0, 91⟩, ⟨2, 0, 0, 45⟩, ⟨2, 0, 0, 45⟩, ⟨1, 0, 0, 22⟩, ⟨0, 0, 0, 0⟩, ⟨0, 0, 0, 0⟩, ⟨0, 0, 0, 0⟩, ⟨0, 0, 0, 0⟩, ⟨1, 0, 0, 20⟩, ⟨0, 0, 0, 0⟩, ⟨0, 0, 0, 0⟩, ⟨0, 0, 0, 0⟩, ⟨0, 0, 0, 0⟩, ⟨4, 0, 0, 109⟩, ⟨3, 0, 0, 88⟩, ⟨2, 0, 0, 59⟩, ⟨1, 0, 0, 30⟩, ⟨3, 0, 0, 88⟩, ⟨2, 0, 0, 52⟩, ⟨1, 0, 0, 23⟩, ⟨1, 0, 0, 22⟩, ⟨2, 0, 0, 45⟩, ⟨0, 0, 0, 0⟩, ⟨0, 0, 0, 0⟩, ⟨4, 51, 3801, 83⟩, ⟨5, 0, 0, 130⟩, ⟨5, 0, 0, 130⟩, ⟨5, 0, 0, 130⟩, ⟨5, 0, 0, 130⟩, ⟨5, 0, 0, 130⟩, ⟨5, 0, 0, 130⟩, ⟨5, 0, 0, 130⟩, ⟨5, 0, 0, 130⟩, ⟨5, 0, 0, 130⟩, ⟨5, 0, 0, 129⟩, ⟨2, 0, 0, 55⟩, ⟨5, 0, 0, 112⟩, ⟨3, 0, 0, 79⟩, ⟨4, 0, 0, 91⟩, ⟨4, 0, 0, 91⟩, ⟨4, 0, 0, 91⟩, ⟨3, 0, 0, 65⟩, ⟨2, 0, 0, 45⟩, ⟨0, 0, 0, 0⟩, ⟨1, 0, 0, 22⟩, ⟨3, 0, 0, 79⟩, ⟨6, 0, 0, 152⟩, ⟨6, 0, 0, 152⟩, ⟨7, 0, 0, 147⟩, ⟨0, 0, 0, 0⟩, ⟨3, 0, 0, 68⟩, ⟨0, 0, 0, 0⟩, ⟨0, 0, 0, 0⟩, ⟨0, 0, 0, 0⟩, ⟨4, 0, 0, 109⟩, ⟨5, 0, 0, 129⟩, ⟨2, 0, 0, 45⟩, ⟨2, 0, 0, 42⟩, ⟨2, 0, 0, 42⟩, ⟨0, 0, 0, 0⟩, ⟨0, 0, 0, 0⟩, ⟨1, 0, 0, 22⟩, ⟨0, 0, 0, 0⟩, ⟨1, 0, 0, 30⟩, ⟨1, 0, 0, 30⟩, ⟨2, 0, 0, 55⟩, ⟨1, 29, 3534, 20⟩, ⟨0, 0, 0, 0⟩, ⟨0, 0, 0, 0⟩, ⟨0, 0, 0, 0⟩, ⟨1, 0, 0, 22⟩, ⟨1, 0, 0, 22⟩, ⟨0, 0, 0, 0⟩, ⟨0, 0, 0, 0⟩, ⟨0, 0, 0, 0⟩, ⟨0, 0, 0, 0⟩, ⟨2, 0, 0, 47⟩, ⟨1, 0, 0, 23⟩, ⟨0, 0, 0, 0⟩, ⟨3, 0, 0, 68⟩, ⟨1, 0, 0, 29⟩, ⟨2, 0, 0, 61⟩, ⟨1, 0, 0, 29⟩, ⟨0, 0, 0, 0⟩, ⟨0, 0, 0, 0⟩, ⟨2, 0, 0, 50⟩, ⟨1, 0, 0, 22⟩, ⟨3, 0, 0, 73⟩, ⟨4, 0, 0, 94⟩, ⟨4, 0, 0, 94⟩, ⟨4, 0, 0, 94⟩, ⟨2, 0, 0, 43⟩, ⟨4, 0, 0, 94⟩, ⟨4, 0, 0, 94⟩, ⟨4, 0, 0, 94⟩, ⟨4, 0, 0, 94⟩, ⟨4, 0, 0, 94⟩, ⟨4, 0, 0, 94⟩, ⟨4, 0, 0, 94⟩, ⟨5, 0, 0, 116⟩, ⟨1, 0, 0, 29⟩, ⟨2, 0, 0, 55⟩, ⟨4, 0, 0, 92⟩, ⟨2, 0, 0, 55⟩, ⟨3, 0, 0, 68⟩, ⟨3, 0, 0, 68⟩, ⟨3, 0, 0, 68⟩, ⟨2, 0, 0, 43⟩, ⟨2, 0, 0, 43⟩, ⟨0, 0, 0, 0⟩, ⟨2, 0, 0, 55⟩, ⟨2, 0, 0, 55⟩, ⟨0, 0, 0, 0⟩, ⟨0, 0, 0, 0⟩, ⟨0, 0, 0, 0⟩, ⟨0, 0, 0, 0⟩, ⟨5, 0, 0, 116⟩, ⟨6, 0, 0, 139⟩, ⟨5, 0, 0, 116⟩, ⟨6, 0, 0, 139⟩, ⟨0, 0, 0, 0⟩, ⟨1, 0, 0, 21⟩, ⟨2, 0, 0, 43⟩, ⟨3, 0, 0, 65⟩, ⟨4, 0, 0, 87⟩, ⟨1, 0, 0, 21⟩, ⟨5, 0, 0, 109⟩, ⟨6, 0, 0, 133⟩, ⟨1, 0, 0, 22⟩, ⟨0, 0, 0, 0⟩, ⟨0, 0, 0, 0⟩, ⟨2, 0, 0, 43⟩, ⟨0, 0, 0, 0⟩, ⟨0, 0, 0, 0⟩, ⟨0, 0, 0, 0⟩, ⟨0, 0, 0, 0⟩, ⟨10, 82, 7398, 358⟩]
def zcq : List Nat := [324, 806, 818, 399, 855, 835, 391, 858, 814, 267, 525, 729, 87, 470, 556, 454, 905, 501, 545, 565, 442, 578, 617, 711, 290, 752, 776, 756, 764, 768, 772, 375, 843, 872, 383, 824, 357, 827, 847, 863, 875, 157, 745, 505, 509, 485, 489, 151, 613, 609, 625, 621, 458, 605, 632, 640, 497, 636, 644, 652, 656, 648, 601, 798, 786, 737, 664, 660, 513, 517, 450, 462, 466, 481, 493, 477, 794, 79, 431, 540, 552, 561, 570, 574, 583, 588, 593, 597, 669, 675, 685, 689, 695, 699, 703, 716, 721, 725, 733, 741, 782, 802, 881, 885, 913, 438, 536, 446, 790, 892, 901, 909, 434, 707, 895, 520, 528, 532, 681, 918, 1093, 1097, 1132, 1140, 1148, 1128, 1117, 1192, 1196, 1188, 1200, 1204, 1184, 1216, 1212, 1125, 1113, 1109, 1105, 1121, 1101, 1090, 1136, 1144, 1156, 1152, 1160, 1164, 1168, 1172, 1176, 1208, 1180, 1224, 1221, 1228, 1233, 1237, 1242, 1246, 1250, 1254, 1258, 1262, 1266, 1274, 1291, 1282, 1287, 1278, 1270, 1299, 1295, 1311, 1315, 1307, 1323, 1319, 1327, 1331, 1303, 1335, 1342, 1346, 1339, 1350, 888, 628, 473, 0]
def zOc : List Nat := [0, 0, 0, 1, 1, 1, 2, 2, 2, 3, 3, 3, 4, 4, 4, 4, 4, 4, 4, 4, 4, 4, 4, 4, 5, 5, 5, 5, 5, 5, 5, 6, 6, 6, 7, 7, 8, 8, 8, 8, 8, 9, 9, 9, 9, 9, 9, 10, 10, 10, 10, 10, 10, 10, 10, 10, 10, 10, 10, 10, 10, 10, 10, 10, 10, 10, 10, 10, 10, 10, 10, 10, 10, 10, 10, 10, 10, 11, 11, 11, 11, 11, 11, 11, 11, 11, 11, 11, 11, 11, 11, 11, 11, 11, 11, 11, 11, 11, 11, 11, 11, 11, 11, 11, 11, 11, 11, 11, 11, 11, 11, 11, 11, 11, 11, 11, 11, 11, 11, 12, 12, 12, 12, 12, 12, 12, 12, 12, 12, 12, 12, 12, 12, 12, 12, 12, 12, 12, 12, 12, 12, 12, 12, 12, 12, 12, 12, 12, 12, 12, 12, 12, 12, 12, 12, 12, 12, 12, 12, 12, 12, 12, 12, 12, 12, 12, 12, 12, 12, 12, 12, 12, 12, 12, 12, 12, 12, 12, 12, 12, 12, 12, 12, 12, 12, 12, 14, 14, 14, 13]
def zRn : List String := [RX0, RX1, RX2, RX3, RX4, RX5, RX6, RX7, RX8, RX9, RX10, RX11, RX12, RL, RJ9]
abbrev zCe : Type := Nat × Nat × Nat × Nat × Nat × Nat × Nat × List Nat
def zcp0 : List zCe := [(0, 3, 99, 7, 0, 0, 0, [325, 81]), (1, 19, 4, 0, 13, 1, 0, [807, 468, 469, 61]), (3, 1, 99, 4, 6, 1, 0, [400, 390, 70]), (4, 13, 0, 0, 2, 1, 0, [836, 816, 817, 66]), (4, 19, 98, 6, 7, 1, 0, [856, 1351, 402, 857, 70]), (5, 13, 0, 0, 2, 1, 0, [836, 816, 817, 66]), (6, 1, 99, 4, 36, 1, 0, [392, 356, 67]), (7, 13, 0, 0, 2, 1, 0, [815, 816, 817, 66]), (7, 19, 98, 6, 39, 1, 0, [859, 852, 394, 850, 67]), (8, 13, 0, 0, 2, 1, 0, [815, 816, 817, 66]), (8, 30, 98, 6, 37, 1, 0, [819, 811, 394, 809, 67]), (9, 3, 99, 7, 0, 0, 0, [268, 81]), (10, 52, 99, 3, 116, 2, 0, [527, 60]), (10, 56, 99, 3, 117, 2, 0, [531, 60]), (12, 3, 99, 7, 0, 0, 0, [88, 81]), (16, 46, 4, 0, 13, 1, 0, [566, 468, 469, 61]), (18, 50, 4, 0, 15, 1, 0, [546, 452, 453, 61]), (18, 54, 4, 0, 17, 1, 0, [547, 499, 500, 61]), (19, 46, 4, 0, 13, 1, 0, [566, 468, 469, 61]), (23, 57, 4, 0, 18, 1, 0, [712, 543, 544, 61]), (23, 54, 4, 0, 17, 1, 0, [547, 499, 500, 61]), (24, 3, 99, 7, 0, 0, 0, [291, 81]), (25, 34, 5, 0, 27, 2, 0, [753, 755, 16, 65]), (25, 38, 10, 0, 53, 0, 0, [758, 603, 604, 62]), (25, 41, 10, 0, 58, 0, 0, [759, 642, 643, 62]), (25, 45, 10, 0, 66, 0, 0, [760, 662, 663, 62]), (25, 48, 5, 0, 28, 2, 0, [761, 763, 17, 65]), (25, 52, 5, 0, 30, 2, 0, [769, 771, 19, 65]), (26, 62, 99, 3, 116, 2, 0, [527, 60]), (26, 66, 99, 3, 117, 2, 0, [531, 60]), (27, 90, 99, 8, 0, 0, 0, [757, 748, 747, 74]), (28, 96, 5, 0, 29, 2, 0, [765, 767, 18, 65]), (31, 1, 99, 4, 36, 1, 0, [376, 356, 67]), (32, 13, 0, 0, 2, 1, 0, [844, 816, 817, 66]), (32, 19, 98, 6, 38, 1, 0, [845, 832, 378, 830, 67]), (33, 13, 0, 0, 2, 1, 0, [844, 816, 817, 66]), (33, 27, 98, 6, 40, 1, 0, [873, 867, 378, 865, 67]), (34, 1, 99, 4, 36, 1, 0, [384, 356, 67]), (35, 13, 0, 0, 2, 1, 0, [825, 816, 817, 66]), (35, 19, 98, 6, 37, 1, 0, [826, 811, 386, 809, 67]), (36, 1, 99, 7, 0, 0, 0, [358, 81]), (37, 13, 0, 0, 2, 1, 0, [828, 816, 817, 66]), (38, 13, 0, 0, 2, 1, 0, [828, 816, 817, 66]), (38, 23, 8, 1, 37, 1, 37, [848, 811, 809, 810, 809, 67]), (38, 23, 6, 1, 37, 1, 37, [848, 811, 809, 821, 809, 67]), (38, 23, 7, 1, 35, 1, 37, [848, 811, 809, 822, 823, 69]), (38, 23, 2, 1, 8, 1, 37, [848, 811, 809, 820, 813, 70]), (38, 23, 1, 1, 8, 1, 37, [848, 811, 809, 812, 813, 70]), (39, 13, 0, 0, 2, 1, 0, [828, 816, 817, 66]), (40, 13, 0, 0, 2, 1, 0, [828, 816, 817, 66]), (40, 27, 8, 1, 38, 1, 38, [876, 832, 830, 831, 830, 67]), (40, 27, 6, 1, 32, 1, 38, [876, 832, 830, 841, 842, 68]), (40, 27, 7, 1, 38, 1, 38, [876, 832, 830, 846, 830, 67]), (40, 27, 2, 1, 38, 1, 38, [876, 832, 830, 840, 830, 67]), (40, 27, 1, 1, 5, 1, 38, [876, 832, 830, 833, 834, 71]), (40, 30, 8, 1, 39, 1, 39, [877, 852, 850, 851, 850, 67]), (40, 30, 6, 1, 39, 1, 39, [877, 852, 850, 861, 850, 67]), (40, 30, 7, 1, 39, 1, 39, [877, 852, 850, 862, 850, 67]), (40, 30, 2, 1, 7, 1, 39, [877, 852, 850, 860, 857, 70]), (40, 30, 1, 1, 4, 1, 39, [877, 852, 850, 853, 854, 71])]
def zcp1 : List zCe := [(41, 3, 99, 7, 0, 0, 0, [158, 81]), (42, 45, 99, 8, 0, 0, 0, [746, 748, 747, 74]), (47, 3, 99, 7, 0, 0, 0, [152, 81]), (47, 11, 99, 5, 41, 0, 0, [156, 63]), (48, 41, 4, 0, 22, 1, 0, [614, 615, 616, 61]), (48, 47, 9, 0, 43, 1, 0, [502, 503, 504, 63]), (48, 51, 9, 0, 45, 1, 0, [482, 483, 484, 63]), (49, 67, 10, 0, 48, 1, 0, [610, 611, 612, 62]), (49, 76, 10, 0, 51, 2, 0, [618, 620, 11, 62]), (49, 83, 10, 0, 50, 1, 0, [622, 624, 12, 62]), (50, 91, 99, 2, 187, 2, 0, [626, 627, 73]), (50, 67, 10, 0, 48, 1, 0, [610, 611, 612, 62]), (50, 76, 10, 0, 51, 2, 0, [618, 620, 11, 62]), (50, 97, 10, 0, 52, 1, 0, [455, 457, 2, 62]), (51, 103, 4, 0, 13, 1, 0, [467, 468, 469, 61]), (53, 113, 10, 0, 49, 0, 0, [606, 607, 608, 62]), (53, 122, 10, 0, 54, 1, 0, [629, 631, 13, 62]), (53, 125, 10, 0, 55, 1, 0, [637, 639, 15, 62]), (54, 128, 10, 0, 57, 2, 0, [633, 635, 14, 62]), (54, 132, 4, 0, 15, 1, 0, [451, 452, 453, 61]), (54, 51, 9, 0, 45, 1, 0, [482, 483, 484, 63]), (54, 135, 10, 0, 56, 2, 0, [494, 496, 7, 62]), (55, 128, 10, 0, 57, 2, 0, [633, 635, 14, 62]), (55, 135, 10, 0, 56, 2, 0, [494, 496, 7, 62]), (56, 145, 4, 0, 17, 1, 0, [498, 499, 500, 61]), (56, 47, 9, 0, 43, 1, 0, [502, 503, 504, 63]), (61, 154, 10, 0, 59, 0, 0, [649, 650, 651, 62]), (61, 158, 10, 0, 60, 0, 0, [653, 654, 655, 62]), (66, 164, 10, 0, 68, 2, 0, [510, 512, 8, 62]), (66, 168, 10, 0, 70, 0, 0, [665, 448, 449, 62]), (67, 164, 10, 0, 68, 2, 0, [510, 512, 8, 62]), (68, 171, 10, 0, 69, 3, 0, [514, 516, 9, 62]), (69, 183, 99, 3, 115, 2, 0, [519, 60]), (70, 132, 4, 0, 15, 1, 0, [451, 452, 453, 61]), (70, 97, 10, 0, 52, 1, 0, [455, 457, 2, 62]), (70, 187, 10, 0, 71, 1, 0, [459, 461, 3, 62]), (70, 190, 10, 0, 73, 1, 0, [478, 480, 5, 62]), (70, 193, 10, 0, 74, 1, 0, [490, 492, 6, 62]), (70, 164, 10, 0, 68, 2, 0, [510, 512, 8, 62]), (71, 199, 10, 0, 72, 2, 0, [463, 464, 465, 62]), (71, 203, 10, 0, 75, 2, 0, [474, 476, 4, 62]), (72, 103, 4, 0, 13, 1, 0, [467, 468, 469, 61]), (72, 206, 99, 2, 188, 2, 0, [471, 472, 73]), (73, 51, 9, 0, 45, 1, 0, [482, 483, 484, 63]), (73, 208, 9, 0, 46, 2, 0, [486, 487, 488, 63]), (73, 203, 10, 0, 75, 2, 0, [474, 476, 4, 62]), (74, 135, 10, 0, 56, 2, 0, [494, 496, 7, 62]), (74, 212, 9, 0, 44, 2, 0, [506, 507, 508, 63]), (74, 203, 10, 0, 75, 2, 0, [474, 476, 4, 62]), (77, 1, 99, 7, 0, 0, 0, [80, 81]), (77, 9, 99, 5, 12, 0, 0, [86, 61]), (77, 18, 99, 4, 47, 1, 0, [149, 150, 62]), (77, 30, 99, 5, 9, 0, 0, [266, 64]), (77, 37, 99, 5, 24, 0, 0, [289, 65]), (77, 44, 99, 5, 0, 0, 0, [323, 66]), (77, 55, 99, 4, 36, 1, 0, [355, 356, 67]), (77, 60, 99, 4, 31, 1, 0, [373, 374, 68]), (77, 63, 99, 4, 34, 1, 0, [381, 382, 69]), (77, 66, 99, 4, 6, 1, 0, [389, 390, 70]), (77, 69, 99, 4, 3, 1, 0, [397, 398, 71])]
def zcp2 : List zCe := [(78, 74, 99, 2, 112, 3, 0, [432, 433, 60]), (78, 78, 11, 0, 105, 1, 0, [435, 437, 0, 60]), (78, 82, 4, 0, 20, 2, 0, [439, 440, 441, 61]), (78, 86, 11, 0, 107, 1, 0, [443, 445, 1, 60]), (79, 89, 4, 0, 13, 1, 0, [541, 468, 469, 61]), (79, 78, 11, 0, 105, 1, 0, [435, 437, 0, 60]), (79, 93, 4, 0, 18, 1, 0, [542, 543, 544, 61]), (79, 74, 99, 2, 112, 3, 0, [432, 433, 60]), (79, 100, 4, 0, 17, 1, 0, [548, 499, 500, 61]), (79, 86, 11, 0, 107, 1, 0, [443, 445, 1, 60]), (80, 89, 4, 0, 13, 1, 0, [541, 468, 469, 61]), (80, 109, 4, 0, 14, 1, 0, [553, 554, 555, 61]), (80, 78, 11, 0, 105, 1, 0, [435, 437, 0, 60]), (80, 100, 4, 0, 17, 1, 0, [548, 499, 500, 61]), (80, 112, 4, 0, 15, 1, 0, [557, 452, 453, 61]), (80, 86, 11, 0, 107, 1, 0, [443, 445, 1, 60]), (81, 89, 4, 0, 13, 1, 0, [541, 468, 469, 61]), (81, 121, 4, 0, 19, 2, 0, [562, 563, 564, 61]), (81, 78, 11, 0, 105, 1, 0, [435, 437, 0, 60]), (81, 112, 4, 0, 15, 1, 0, [557, 452, 453, 61]), (81, 86, 11, 0, 107, 1, 0, [443, 445, 1, 60]), (82, 89, 4, 0, 13, 1, 0, [541, 468, 469, 61]), (82, 121, 4, 0, 19, 2, 0, [562, 563, 564, 61]), (82, 78, 11, 0, 105, 1, 0, [435, 437, 0, 60]), (82, 86, 11, 0, 107, 1, 0, [443, 445, 1, 60]), (83, 89, 4, 0, 13, 1, 0, [541, 468, 469, 61]), (83, 121, 4, 0, 19, 2, 0, [562, 563, 564, 61]), (83, 74, 99, 2, 112, 3, 0, [432, 433, 60]), (83, 78, 11, 0, 105, 1, 0, [435, 437, 0, 60]), (83, 131, 4, 0, 21, 2, 0, [575, 576, 577, 61]), (83, 143, 9, 0, 44, 2, 0, [579, 507, 508, 63]), (83, 86, 11, 0, 107, 1, 0, [443, 445, 1, 60]), (84, 89, 4, 0, 13, 1, 0, [541, 468, 469, 61]), (84, 74, 99, 2, 112, 3, 0, [432, 433, 60]), (84, 78, 11, 0, 105, 1, 0, [435, 437, 0, 60]), (84, 154, 10, 0, 72, 2, 0, [584, 464, 465, 62]), (84, 86, 11, 0, 107, 1, 0, [443, 445, 1, 60]), (85, 109, 4, 0, 14, 1, 0, [553, 554, 555, 61]), (85, 78, 11, 0, 105, 1, 0, [435, 437, 0, 60]), (85, 158, 9, 0, 43, 1, 0, [589, 503, 504, 63]), (85, 143, 9, 0, 44, 2, 0, [579, 507, 508, 63]), (85, 86, 11, 0, 107, 1, 0, [443, 445, 1, 60]), (86, 109, 4, 0, 14, 1, 0, [553, 554, 555, 61]), (86, 74, 99, 2, 112, 3, 0, [432, 433, 60]), (86, 78, 11, 0, 105, 1, 0, [435, 437, 0, 60]), (86, 86, 11, 0, 107, 1, 0, [443, 445, 1, 60]), (87, 161, 10, 0, 62, 1, 0, [598, 599, 600, 62]), (87, 78, 11, 0, 105, 1, 0, [435, 437, 0, 60]), (87, 167, 10, 0, 53, 0, 0, [602, 603, 604, 62]), (87, 170, 10, 0, 58, 0, 0, [641, 642, 643, 62]), (87, 174, 10, 0, 61, 1, 0, [645, 646, 647, 62]), (87, 177, 10, 0, 67, 1, 0, [657, 658, 659, 62]), (87, 181, 11, 0, 106, 1, 0, [533, 535, 10, 60]), (87, 184, 10, 0, 66, 0, 0, [661, 662, 663, 62]), (87, 187, 3, 0, 10, 1, 0, [522, 523, 524, 64]), (88, 194, 99, 2, 116, 2, 0, [670, 527, 60]), (88, 198, 99, 2, 117, 2, 0, [671, 531, 60]), (89, 74, 99, 2, 112, 3, 0, [432, 433, 60]), (89, 167, 10, 0, 53, 0, 0, [602, 603, 604, 62]), (89, 170, 10, 0, 58, 0, 0, [641, 642, 643, 62])]
def zcp3 : List zCe := [(89, 203, 10, 0, 59, 0, 0, [677, 650, 651, 62]), (89, 207, 10, 0, 60, 0, 0, [678, 654, 655, 62]), (89, 210, 99, 2, 118, 3, 0, [679, 680, 60]), (90, 89, 4, 0, 13, 1, 0, [541, 468, 469, 61]), (90, 74, 99, 2, 112, 3, 0, [432, 433, 60]), (90, 210, 99, 2, 118, 3, 0, [679, 680, 60]), (91, 89, 4, 0, 13, 1, 0, [541, 468, 469, 61]), (91, 219, 10, 0, 49, 0, 0, [691, 607, 608, 62]), (92, 109, 4, 0, 14, 1, 0, [553, 554, 555, 61]), (92, 219, 10, 0, 49, 0, 0, [691, 607, 608, 62]), (93, 89, 4, 0, 13, 1, 0, [541, 468, 469, 61]), (93, 219, 10, 0, 49, 0, 0, [691, 607, 608, 62]), (94, 89, 4, 0, 13, 1, 0, [541, 468, 469, 61]), (94, 112, 4, 0, 15, 1, 0, [557, 452, 453, 61]), (94, 231, 9, 0, 45, 1, 0, [704, 483, 484, 63]), (94, 234, 99, 2, 113, 1, 0, [705, 706, 60]), (94, 241, 4, 0, 23, 2, 0, [708, 709, 710, 61]), (95, 109, 4, 0, 14, 1, 0, [553, 554, 555, 61]), (95, 158, 9, 0, 43, 1, 0, [589, 503, 504, 63]), (95, 234, 99, 2, 113, 1, 0, [705, 706, 60]), (95, 247, 10, 0, 48, 1, 0, [717, 611, 612, 62]), (97, 259, 3, 0, 11, 2, 0, [726, 727, 728, 64]), (98, 210, 99, 2, 118, 3, 0, [679, 680, 60]), (98, 266, 10, 0, 65, 0, 0, [734, 735, 736, 62]), (99, 74, 99, 2, 112, 3, 0, [432, 433, 60]), (99, 269, 9, 0, 42, 1, 0, [742, 743, 744, 63]), (99, 273, 5, 0, 25, 1, 0, [749, 750, 751, 65]), (99, 277, 5, 0, 26, 1, 0, [773, 774, 775, 65]), (100, 109, 4, 0, 14, 1, 0, [553, 554, 555, 61]), (100, 74, 99, 2, 112, 3, 0, [432, 433, 60]), (100, 100, 4, 0, 17, 1, 0, [548, 499, 500, 61]), (100, 279, 10, 0, 64, 1, 0, [783, 784, 785, 62]), (100, 78, 11, 0, 105, 1, 0, [435, 437, 0, 60]), (100, 269, 9, 0, 42, 1, 0, [742, 743, 744, 63]), (100, 282, 11, 0, 108, 2, 0, [787, 789, 20, 60]), (100, 181, 11, 0, 106, 1, 0, [533, 535, 10, 60]), (101, 112, 4, 0, 15, 1, 0, [557, 452, 453, 61]), (101, 74, 99, 2, 112, 3, 0, [432, 433, 60]), (101, 78, 11, 0, 105, 1, 0, [435, 437, 0, 60]), (101, 285, 0, 0, 1, 3, 0, [803, 804, 805, 66]), (101, 289, 8, 1, 37, 1, 37, [808, 811, 809, 810, 809, 67]), (101, 289, 6, 1, 37, 1, 37, [808, 811, 809, 821, 809, 67]), (101, 289, 7, 1, 35, 1, 37, [808, 811, 809, 822, 823, 69]), (101, 289, 2, 1, 8, 1, 37, [808, 811, 809, 820, 813, 70]), (101, 289, 1, 1, 8, 1, 37, [808, 811, 809, 812, 813, 70]), (101, 181, 11, 0, 106, 1, 0, [533, 535, 10, 60]), (101, 292, 8, 1, 38, 1, 38, [829, 832, 830, 831, 830, 67]), (101, 292, 6, 1, 32, 1, 38, [829, 832, 830, 841, 842, 68]), (101, 292, 7, 1, 38, 1, 38, [829, 832, 830, 846, 830, 67]), (101, 292, 2, 1, 38, 1, 38, [829, 832, 830, 840, 830, 67]), (101, 292, 1, 1, 5, 1, 38, [829, 832, 830, 833, 834, 71]), (101, 295, 8, 1, 39, 1, 39, [849, 852, 850, 851, 850, 67]), (101, 295, 6, 1, 39, 1, 39, [849, 852, 850, 861, 850, 67]), (101, 295, 7, 1, 39, 1, 39, [849, 852, 850, 862, 850, 67]), (101, 295, 2, 1, 7, 1, 39, [849, 852, 850, 860, 857, 70]), (101, 295, 1, 1, 4, 1, 39, [849, 852, 850, 853, 854, 71]), (101, 298, 8, 1, 40, 1, 40, [864, 867, 865, 866, 865, 67]), (101, 298, 6, 1, 33, 1, 40, [864, 867, 865, 870, 871, 68]), (101, 298, 7, 1, 40, 1, 40, [864, 867, 865, 874, 865, 67]), (101, 298, 2, 1, 40, 1, 40, [864, 867, 865, 869, 865, 67])]
def zcp4 : List zCe := [(101, 298, 1, 1, 40, 1, 40, [864, 867, 865, 868, 865, 67]), (103, 74, 99, 2, 112, 3, 0, [432, 433, 60]), (103, 78, 11, 0, 105, 1, 0, [435, 437, 0, 60]), (103, 304, 99, 2, 186, 2, 0, [886, 887, 73]), (103, 309, 11, 0, 109, 2, 0, [889, 891, 21, 60]), (103, 181, 11, 0, 106, 1, 0, [533, 535, 10, 60]), (103, 89, 4, 0, 13, 1, 0, [541, 468, 469, 61]), (103, 312, 11, 0, 110, 2, 0, [898, 900, 22, 60]), (103, 315, 11, 0, 111, 1, 0, [906, 908, 23, 60]), (107, 318, 10, 0, 70, 0, 0, [447, 448, 449, 62]), (107, 187, 3, 0, 10, 1, 0, [522, 523, 524, 64]), (107, 181, 11, 0, 106, 1, 0, [533, 535, 10, 60]), (108, 167, 10, 0, 53, 0, 0, [602, 603, 604, 62]), (108, 170, 10, 0, 58, 0, 0, [641, 642, 643, 62]), (108, 174, 10, 0, 61, 1, 0, [645, 646, 647, 62]), (108, 184, 10, 0, 66, 0, 0, [661, 662, 663, 62]), (108, 321, 10, 0, 76, 2, 0, [791, 792, 793, 62]), (108, 324, 10, 0, 63, 1, 0, [795, 796, 797, 62]), (109, 89, 4, 0, 13, 1, 0, [541, 468, 469, 61]), (109, 78, 11, 0, 105, 1, 0, [435, 437, 0, 60]), (109, 112, 4, 0, 15, 1, 0, [557, 452, 453, 61]), (109, 327, 99, 2, 114, 2, 0, [893, 894, 60]), (109, 181, 11, 0, 106, 1, 0, [533, 535, 10, 60]), (110, 78, 11, 0, 105, 1, 0, [435, 437, 0, 60]), (110, 330, 4, 0, 16, 1, 0, [902, 903, 904, 61]), (110, 181, 11, 0, 106, 1, 0, [533, 535, 10, 60]), (111, 89, 4, 0, 13, 1, 0, [541, 468, 469, 61]), (111, 181, 11, 0, 106, 1, 0, [533, 535, 10, 60]), (111, 100, 4, 0, 17, 1, 0, [548, 499, 500, 61]), (111, 330, 4, 0, 16, 1, 0, [902, 903, 904, 61]), (111, 78, 11, 0, 105, 1, 0, [435, 437, 0, 60]), (114, 74, 99, 2, 112, 3, 0, [432, 433, 60]), (116, 336, 99, 2, 115, 2, 0, [529, 519, 60]), (117, 336, 99, 2, 115, 2, 0, [529, 519, 60]), (118, 194, 99, 2, 116, 2, 0, [670, 527, 60]), (118, 198, 99, 2, 117, 2, 0, [671, 531, 60]), (119, 1, 99, 7, 0, 0, 0, [919, 81]), (123, 117, 99, 2, 120, 3, 0, [1091, 1092, 72]), (124, 117, 99, 2, 120, 3, 0, [1091, 1092, 72]), (129, 130, 12, 0, 127, 1, 0, [1189, 1191, 38, 72]), (129, 134, 12, 0, 128, 2, 0, [1193, 1195, 39, 72]), (129, 138, 12, 0, 130, 1, 0, [1197, 1199, 40, 72]), (130, 130, 12, 0, 127, 1, 0, [1189, 1191, 38, 72]), (130, 134, 12, 0, 128, 2, 0, [1193, 1195, 39, 72]), (132, 151, 12, 0, 129, 0, 0, [1185, 1187, 37, 72]), (132, 154, 12, 0, 131, 2, 0, [1201, 1203, 41, 72]), (132, 158, 12, 0, 126, 1, 0, [1114, 1116, 29, 72]), (133, 164, 99, 2, 125, 2, 0, [1126, 1127, 72]), (134, 164, 99, 2, 125, 2, 0, [1126, 1127, 72]), (134, 168, 12, 0, 133, 5, 0, [1213, 1215, 44, 72]), (135, 164, 99, 2, 125, 2, 0, [1126, 1127, 72]), (138, 189, 12, 0, 137, 2, 0, [1106, 1108, 27, 72]), (138, 192, 12, 0, 136, 2, 0, [1110, 1112, 28, 72]), (138, 158, 12, 0, 126, 1, 0, [1114, 1116, 29, 72]), (138, 196, 12, 0, 139, 1, 0, [1118, 1120, 30, 72]), (138, 199, 12, 0, 135, 0, 0, [1122, 1124, 31, 72]), (139, 189, 12, 0, 137, 2, 0, [1106, 1108, 27, 72]), (140, 202, 12, 0, 138, 0, 0, [1102, 1104, 26, 72]), (140, 205, 12, 0, 122, 1, 0, [1129, 1131, 32, 72]), (141, 117, 99, 2, 120, 3, 0, [1091, 1092, 72])]
def zcp5 : List zCe := [(141, 209, 12, 0, 121, 1, 0, [1094, 1096, 24, 72]), (141, 212, 12, 0, 140, 1, 0, [1098, 1100, 25, 72]), (142, 215, 12, 0, 123, 1, 0, [1137, 1139, 33, 72]), (142, 209, 12, 0, 121, 1, 0, [1094, 1096, 24, 72]), (142, 117, 99, 2, 120, 3, 0, [1091, 1092, 72]), (142, 212, 12, 0, 140, 1, 0, [1098, 1100, 25, 72]), (143, 215, 12, 0, 123, 1, 0, [1137, 1139, 33, 72]), (143, 218, 12, 0, 124, 1, 0, [1145, 1147, 34, 72]), (143, 209, 12, 0, 121, 1, 0, [1094, 1096, 24, 72]), (143, 212, 12, 0, 140, 1, 0, [1098, 1100, 25, 72]), (144, 215, 12, 0, 123, 1, 0, [1137, 1139, 33, 72]), (145, 215, 12, 0, 123, 1, 0, [1137, 1139, 33, 72]), (145, 221, 12, 0, 144, 2, 0, [1153, 1155, 35, 72]), (145, 209, 12, 0, 121, 1, 0, [1094, 1096, 24, 72]), (145, 212, 12, 0, 140, 1, 0, [1098, 1100, 25, 72]), (146, 215, 12, 0, 123, 1, 0, [1137, 1139, 33, 72]), (146, 221, 12, 0, 144, 2, 0, [1153, 1155, 35, 72]), (146, 209, 12, 0, 121, 1, 0, [1094, 1096, 24, 72]), (146, 212, 12, 0, 140, 1, 0, [1098, 1100, 25, 72]), (147, 215, 12, 0, 123, 1, 0, [1137, 1139, 33, 72]), (147, 221, 12, 0, 144, 2, 0, [1153, 1155, 35, 72]), (147, 117, 99, 2, 120, 3, 0, [1091, 1092, 72]), (147, 209, 12, 0, 121, 1, 0, [1094, 1096, 24, 72]), (147, 212, 12, 0, 140, 1, 0, [1098, 1100, 25, 72]), (148, 215, 12, 0, 123, 1, 0, [1137, 1139, 33, 72]), (148, 117, 99, 2, 120, 3, 0, [1091, 1092, 72]), (148, 209, 12, 0, 121, 1, 0, [1094, 1096, 24, 72]), (148, 192, 12, 0, 136, 2, 0, [1110, 1112, 28, 72]), (148, 212, 12, 0, 140, 1, 0, [1098, 1100, 25, 72]), (149, 218, 12, 0, 124, 1, 0, [1145, 1147, 34, 72]), (149, 209, 12, 0, 121, 1, 0, [1094, 1096, 24, 72]), (149, 212, 12, 0, 140, 1, 0, [1098, 1100, 25, 72]), (150, 218, 12, 0, 124, 1, 0, [1145, 1147, 34, 72]), (150, 117, 99, 2, 120, 3, 0, [1091, 1092, 72]), (150, 209, 12, 0, 121, 1, 0, [1094, 1096, 24, 72]), (150, 212, 12, 0, 140, 1, 0, [1098, 1100, 25, 72]), (151, 228, 12, 0, 132, 0, 0, [1181, 1183, 36, 72]), (151, 231, 12, 0, 134, 2, 0, [1209, 1211, 43, 72]), (151, 202, 12, 0, 138, 0, 0, [1102, 1104, 26, 72]), (152, 209, 12, 0, 121, 1, 0, [1094, 1096, 24, 72]), (152, 228, 12, 0, 132, 0, 0, [1181, 1183, 36, 72]), (152, 235, 12, 0, 151, 1, 0, [1205, 1207, 42, 72]), (152, 231, 12, 0, 134, 2, 0, [1209, 1211, 43, 72]), (152, 205, 12, 0, 122, 1, 0, [1129, 1131, 32, 72]), (153, 164, 99, 2, 125, 2, 0, [1126, 1127, 72]), (154, 239, 99, 2, 153, 3, 0, [1222, 1223, 72]), (155, 228, 12, 0, 132, 0, 0, [1181, 1183, 36, 72]), (155, 117, 99, 2, 120, 3, 0, [1091, 1092, 72]), (155, 164, 99, 2, 125, 2, 0, [1126, 1127, 72]), (155, 239, 99, 2, 153, 3, 0, [1222, 1223, 72]), (156, 215, 12, 0, 123, 1, 0, [1137, 1139, 33, 72]), (156, 117, 99, 2, 120, 3, 0, [1091, 1092, 72]), (156, 239, 99, 2, 153, 3, 0, [1222, 1223, 72]), (157, 151, 12, 0, 129, 0, 0, [1185, 1187, 37, 72]), (157, 215, 12, 0, 123, 1, 0, [1137, 1139, 33, 72]), (158, 151, 12, 0, 129, 0, 0, [1185, 1187, 37, 72]), (158, 218, 12, 0, 124, 1, 0, [1145, 1147, 34, 72]), (159, 151, 12, 0, 129, 0, 0, [1185, 1187, 37, 72]), (159, 215, 12, 0, 123, 1, 0, [1137, 1139, 33, 72]), (160, 215, 12, 0, 123, 1, 0, [1137, 1139, 33, 72])]
def zcp6 : List zCe := [(160, 158, 12, 0, 126, 1, 0, [1114, 1116, 29, 72]), (161, 218, 12, 0, 124, 1, 0, [1145, 1147, 34, 72]), (161, 130, 12, 0, 127, 1, 0, [1189, 1191, 38, 72]), (163, 117, 99, 2, 120, 3, 0, [1091, 1092, 72]), (163, 239, 99, 2, 153, 3, 0, [1222, 1223, 72]), (164, 239, 99, 2, 153, 3, 0, [1222, 1223, 72]), (169, 264, 12, 0, 167, 1, 0, [1279, 1281, 47, 72]), (169, 235, 12, 0, 151, 1, 0, [1205, 1207, 42, 72]), (169, 269, 12, 0, 168, 2, 0, [1284, 1286, 48, 72]), (170, 117, 99, 2, 120, 3, 0, [1091, 1092, 72]), (170, 278, 12, 0, 165, 0, 0, [1271, 1273, 45, 72]), (170, 281, 12, 0, 169, 0, 0, [1275, 1277, 46, 72]), (170, 285, 12, 0, 166, 0, 0, [1288, 1290, 49, 72]), (170, 239, 99, 2, 153, 3, 0, [1222, 1223, 72]), (171, 235, 12, 0, 151, 1, 0, [1205, 1207, 42, 72]), (172, 218, 12, 0, 124, 1, 0, [1145, 1147, 34, 72]), (172, 117, 99, 2, 120, 3, 0, [1091, 1092, 72]), (172, 215, 12, 0, 123, 1, 0, [1137, 1139, 33, 72]), (172, 158, 12, 0, 126, 1, 0, [1114, 1116, 29, 72]), (172, 209, 12, 0, 121, 1, 0, [1094, 1096, 24, 72]), (172, 278, 12, 0, 165, 0, 0, [1271, 1273, 45, 72]), (172, 288, 12, 0, 171, 1, 0, [1296, 1298, 50, 72]), (172, 285, 12, 0, 166, 0, 0, [1288, 1290, 49, 72]), (172, 205, 12, 0, 122, 1, 0, [1129, 1131, 32, 72]), (174, 291, 12, 0, 173, 1, 0, [1308, 1310, 52, 72]), (175, 291, 12, 0, 173, 1, 0, [1308, 1310, 52, 72]), (175, 294, 12, 0, 174, 2, 0, [1312, 1314, 53, 72]), (175, 158, 12, 0, 126, 1, 0, [1114, 1116, 29, 72]), (176, 291, 12, 0, 173, 1, 0, [1308, 1310, 52, 72]), (176, 298, 12, 0, 175, 2, 0, [1304, 1306, 51, 72]), (177, 291, 12, 0, 173, 1, 0, [1308, 1310, 52, 72]), (177, 301, 12, 0, 176, 2, 0, [1320, 1322, 55, 72]), (178, 291, 12, 0, 173, 1, 0, [1308, 1310, 52, 72]), (178, 158, 12, 0, 126, 1, 0, [1114, 1116, 29, 72]), (179, 291, 12, 0, 173, 1, 0, [1308, 1310, 52, 72]), (179, 304, 12, 0, 177, 2, 0, [1316, 1318, 54, 72]), (179, 307, 12, 0, 178, 2, 0, [1324, 1326, 56, 72]), (180, 215, 12, 0, 123, 1, 0, [1137, 1139, 33, 72]), (180, 117, 99, 2, 120, 3, 0, [1091, 1092, 72]), (180, 209, 12, 0, 121, 1, 0, [1094, 1096, 24, 72]), (180, 298, 12, 0, 175, 2, 0, [1304, 1306, 51, 72]), (180, 304, 12, 0, 177, 2, 0, [1316, 1318, 54, 72]), (180, 307, 12, 0, 178, 2, 0, [1324, 1326, 56, 72]), (180, 310, 12, 0, 179, 2, 0, [1328, 1330, 57, 72]), (180, 205, 12, 0, 122, 1, 0, [1129, 1131, 32, 72]), (181, 117, 99, 2, 120, 3, 0, [1091, 1092, 72]), (184, 117, 99, 2, 120, 3, 0, [1091, 1092, 72]), (184, 209, 12, 0, 121, 1, 0, [1094, 1096, 24, 72]), (184, 313, 99, 2, 182, 2, 0, [1340, 1341, 72]), (184, 215, 12, 0, 123, 1, 0, [1137, 1139, 33, 72]), (184, 205, 12, 0, 122, 1, 0, [1129, 1131, 32, 72]), (184, 316, 12, 0, 183, 2, 0, [1343, 1345, 58, 72]), (184, 158, 12, 0, 126, 1, 0, [1114, 1116, 29, 72]), (189, 9, 99, 4, 77, 0, 0, [77, 78, 60]), (189, 12, 99, 4, 119, 0, 0, [916, 917, 72]), (189, 13, 11, 0, 78, 2, 0, [428, 429, 430, 60]), (189, 17, 12, 0, 141, 2, 0, [1087, 1088, 1089, 72]), (189, 18, 11, 0, 79, 3, 0, [537, 538, 539, 60]), (189, 22, 12, 0, 142, 3, 0, [1133, 1134, 1135, 72]), (189, 23, 11, 0, 80, 2, 0, [549, 550, 551, 60])]
def zcp7 : List zCe := [(189, 26, 12, 0, 143, 2, 0, [1141, 1142, 1143, 72]), (189, 27, 11, 0, 81, 2, 0, [558, 559, 560, 60]), (189, 30, 12, 0, 145, 2, 0, [1149, 1150, 1151, 72]), (189, 31, 11, 0, 82, 2, 0, [567, 568, 569, 60]), (189, 34, 12, 0, 146, 2, 0, [1157, 1158, 1159, 72]), (189, 35, 11, 0, 83, 3, 0, [571, 572, 573, 60]), (189, 38, 12, 0, 147, 3, 0, [1161, 1162, 1163, 72]), (189, 39, 11, 0, 84, 2, 0, [580, 581, 582, 60]), (189, 42, 12, 0, 148, 2, 0, [1165, 1166, 1167, 72]), (189, 43, 11, 0, 85, 2, 0, [585, 586, 587, 60]), (189, 47, 12, 0, 149, 2, 0, [1169, 1170, 1171, 72]), (189, 48, 11, 0, 86, 2, 0, [590, 591, 592, 60]), (189, 51, 12, 0, 150, 2, 0, [1173, 1174, 1175, 72]), (189, 52, 11, 0, 87, 1, 0, [594, 595, 596, 60]), (189, 56, 12, 0, 152, 1, 0, [1177, 1178, 1179, 72]), (189, 57, 11, 0, 88, 1, 0, [666, 667, 668, 60]), (189, 60, 12, 0, 154, 1, 0, [1218, 1219, 1220, 72]), (189, 61, 11, 0, 89, 1, 0, [672, 673, 674, 60]), (189, 65, 12, 0, 155, 1, 0, [1225, 1226, 1227, 72]), (189, 66, 11, 0, 90, 2, 0, [682, 683, 684, 60]), (189, 69, 12, 0, 156, 2, 0, [1230, 1231, 1232, 72]), (189, 70, 11, 0, 91, 1, 0, [686, 687, 688, 60]), (189, 73, 12, 0, 157, 1, 0, [1234, 1235, 1236, 72]), (189, 74, 11, 0, 92, 1, 0, [692, 693, 694, 60]), (189, 77, 12, 0, 158, 1, 0, [1239, 1240, 1241, 72]), (189, 78, 11, 0, 93, 1, 0, [696, 697, 698, 60]), (189, 81, 12, 0, 159, 1, 0, [1243, 1244, 1245, 72]), (189, 82, 11, 0, 94, 2, 0, [700, 701, 702, 60]), (189, 85, 12, 0, 160, 2, 0, [1247, 1248, 1249, 72]), (189, 86, 11, 0, 95, 2, 0, [713, 714, 715, 60]), (189, 89, 12, 0, 161, 2, 0, [1251, 1252, 1253, 72]), (189, 90, 11, 0, 96, 1, 0, [718, 719, 720, 60]), (189, 93, 12, 0, 162, 1, 0, [1255, 1256, 1257, 72]), (189, 94, 11, 0, 97, 2, 0, [722, 723, 724, 60]), (189, 97, 12, 0, 163, 2, 0, [1259, 1260, 1261, 72]), (189, 98, 11, 0, 98, 1, 0, [730, 731, 732, 60]), (189, 101, 12, 0, 164, 1, 0, [1263, 1264, 1265, 72]), (189, 102, 11, 0, 99, 1, 0, [738, 739, 740, 60]), (189, 105, 12, 0, 170, 1, 0, [1267, 1268, 1269, 72]), (189, 106, 11, 0, 100, 5, 0, [779, 780, 781, 60]), (189, 110, 12, 0, 172, 5, 0, [1292, 1293, 1294, 72]), (189, 111, 11, 0, 101, 3, 0, [799, 800, 801, 60]), (189, 114, 12, 0, 180, 3, 0, [1300, 1301, 1302, 72]), (189, 115, 11, 0, 102, 1, 0, [878, 879, 880, 60]), (189, 118, 12, 0, 181, 1, 0, [1332, 1333, 1334, 72]), (189, 119, 11, 0, 103, 3, 0, [882, 883, 884, 60]), (189, 122, 12, 0, 184, 3, 0, [1336, 1337, 1338, 72]), (189, 123, 11, 0, 104, 0, 0, [910, 911, 912, 60]), (189, 127, 12, 0, 185, 0, 0, [1347, 1348, 1349, 72])]
def zcp : List zCe := zcp0 ++ (zcp1 ++ (zcp2 ++ (zcp3 ++ (zcp4 ++ (zcp5 ++ (zcp6 ++ (zcp7)))))))
abbrev zFe : Type := Nat × Nat × Nat × Nat × Nat × Nat × String
def zfp : List zFe := [(4, 39, 4, 0, 89, 0, "HeronsBench$Plan"), (10, 80, 4, 0, 90, 0, "HeronsBench$Plan"), (11, 250, 4, 0, 91, 0, "HeronsBench$Plan"), (4, 43, 4, 1, 92, 0, "HeronsBench$Plan"), (10, 61, 4, 1, 93, 0, "HeronsBench$Plan"), (11, 253, 4, 1, 94, 0, "HeronsBench$Plan"), (4, 9, 4, 2, 95, 0, "HeronsBench$Plan"), (4, 15, 4, 3, 96, 0, "HeronsBench$Plan"), (0, 25, 4, 3, 97, 0, "HeronsBench$Plan"), (11, 96, 4, 3, 98, 0, "HeronsBench$Plan"), (10, 106, 4, 3, 99, 0, "HeronsBench$Plan"), (4, 18, 4, 4, 100, 0, "HeronsBench$Plan"), (0, 31, 4, 4, 101, 0, "HeronsBench$Plan"), (11, 106, 4, 4, 102, 0, "HeronsBench$Plan"), (10, 139, 4, 4, 103, 0, "HeronsBench$Plan"), (4, 21, 4, 5, 104, 0, "HeronsBench$Plan"), (0, 37, 4, 5, 105, 0, "HeronsBench$Plan"), (11, 103, 4, 5, 106, 0, "HeronsBench$Plan"), (10, 142, 4, 5, 107, 0, "HeronsBench$Plan"), (4, 24, 4, 6, 108, 0, "HeronsBench$Plan"), (11, 118, 4, 6, 109, 0, "HeronsBench$Plan"), (10, 148, 4, 6, 110, 0, "HeronsBench$Plan"), (4, 27, 4, 7, 111, 0, "HeronsBench$Plan"), (11, 125, 4, 7, 112, 0, "HeronsBench$Plan"), (10, 196, 4, 7, 113, 0, "HeronsBench$Plan"), (4, 30, 4, 8, 114, 0, "HeronsBench$Plan"), (10, 100, 4, 8, 115, 0, "HeronsBench$Plan"), (11, 128, 4, 8, 116, 0, "HeronsBench$Plan"), (4, 33, 4, 9, 117, 0, "HeronsBench$Plan"), (10, 64, 4, 9, 118, 0, "HeronsBench$Plan"), (11, 115, 4, 9, 119, 0, "HeronsBench$Plan"), (4, 36, 4, 10, 120, 0, "HeronsBench$Plan"), (10, 73, 4, 10, 121, 0, "HeronsBench$Plan"), (11, 244, 4, 10, 122, 0, "HeronsBench$Plan"), (9, 9, 9, 0, 159, 0, "HeronsBench$Water"), (3, 49, 9, 0, 160, 0, "HeronsBench$Water"), (5, 75, 9, 0, 161, 0, "HeronsBench$Water"), (10, 109, 9, 0, 162, 0, "HeronsBench$Water"), (11, 151, 9, 0, 163, 0, "HeronsBench$Water"), (9, 26, 9, 1, 164, 0, "HeronsBench$Water"), (3, 43, 9, 1, 165, 0, "HeronsBench$Water"), (5, 80, 9, 1, 166, 0, "HeronsBench$Water"), (11, 191, 9, 1, 167, 0, "HeronsBench$Water"), (10, 151, 9, 1, 168, 0, "HeronsBench$Water"), (9, 29, 9, 2, 169, 0, "HeronsBench$Water"), (11, 260, 9, 2, 170, 0, "HeronsBench$Water"), (10, 177, 9, 2, 171, 0, "HeronsBench$Water"), (9, 32, 9, 3, 172, 0, "HeronsBench$Water"), (11, 263, 9, 3, 173, 0, "HeronsBench$Water"), (10, 180, 9, 3, 174, 0, "HeronsBench$Water"), (9, 35, 9, 4, 175, 0, "HeronsBench$Water"), (11, 147, 9, 4, 176, 0, "HeronsBench$Water"), (9, 38, 9, 5, 177, 0, "HeronsBench$Water"), (5, 83, 9, 5, 178, 0, "HeronsBench$Water"), (9, 42, 9, 6, 179, 0, "HeronsBench$Water"), (5, 86, 9, 6, 180, 0, "HeronsBench$Water"), (9, 15, 9, 7, 181, 0, "HeronsBench$Water"), (10, 87, 9, 7, 182, 0, "HeronsBench$Water"), (5, 89, 9, 7, 183, 0, "HeronsBench$Water"), (11, 214, 9, 7, 184, 0, "HeronsBench$Water"), (9, 19, 9, 8, 185, 0, "HeronsBench$Water"), (0, 43, 9, 8, 186, 0, "HeronsBench$Water"), (11, 238, 9, 8, 187, 0, "HeronsBench$Water"), (10, 215, 9, 8, 188, 0, "HeronsBench$Water"), (9, 23, 9, 9, 189, 0, "HeronsBench$Water"), (10, 70, 9, 9, 190, 0, "HeronsBench$Water"), (11, 138, 9, 9, 191, 0, "HeronsBench$Water"), (10, 37, 10, 0, 214, 0, "HeronsBench$Works"), (10, 12, 10, 1, 215, 0, "HeronsBench$Works"), (5, 28, 10, 1, 216, 0, "HeronsBench$Works"), (3, 39, 10, 1, 217, 0, "HeronsBench$Works"), (11, 134, 10, 1, 218, 0, "HeronsBench$Works"), (10, 18, 10, 2, 219, 0, "HeronsBench$Works"), (10, 22, 10, 3, 220, 0, "HeronsBench$Works"), (11, 222, 10, 3, 221, 0, "HeronsBench$Works"), (10, 25, 10, 4, 222, 0, "HeronsBench$Works"), (11, 228, 10, 4, 223, 0, "HeronsBench$Works"), (10, 28, 10, 5, 224, 0, "HeronsBench$Works"), (11, 225, 10, 5, 225, 0, "HeronsBench$Works"), (10, 54, 10, 6, 226, 0, "HeronsBench$Works"), (10, 58, 10, 7, 227, 0, "HeronsBench$Works"), (10, 116, 10, 8, 228, 0, "HeronsBench$Works"), (10, 119, 10, 9, 229, 0, "HeronsBench$Works"), (10, 31, 10, 10, 230, 0, "HeronsBench$Works"), (3, 33, 10, 10, 231, 0, "HeronsBench$Works"), (10, 34, 10, 11, 232, 0, "HeronsBench$Works"), (3, 36, 10, 11, 233, 0, "HeronsBench$Works"), (3, 24, 10, 12, 234, 0, "HeronsBench$Works"), (10, 161, 10, 12, 235, 0, "HeronsBench$Works"), (3, 30, 3, 0, 269, 0, "HeronsBench$Log"), (11, 164, 3, 0, 270, 0, "HeronsBench$Log"), (3, 9, 3, 1, 271, 0, "HeronsBench$Log"), (3, 15, 3, 2, 272, 0, "HeronsBench$Log"), (3, 18, 3, 3, 273, 0, "HeronsBench$Log"), (3, 21, 3, 4, 274, 0, "HeronsBench$Log"), (5, 11, 5, 0, 292, 0, "HeronsBench$Rounds"), (5, 15, 5, 1, 293, 0, "HeronsBench$Rounds"), (5, 18, 5, 2, 294, 0, "HeronsBench$Rounds"), (5, 22, 5, 3, 295, 0, "HeronsBench$Rounds"), (5, 25, 5, 4, 296, 0, "HeronsBench$Rounds"), (5, 55, 5, 5, 297, 0, "HeronsBench$Rounds"), (5, 59, 5, 6, 298, 0, "HeronsBench$Rounds"), (5, 69, 5, 7, 299, 0, "HeronsBench$Rounds"), (5, 72, 5, 8, 300, 0, "HeronsBench$Rounds"), (8, 19, 0, 0, 326, 0, "HeronsBench$ActRun"), (0, 28, 0, 0, 327, 0, "HeronsBench$ActRun"), (6, 23, 0, 1, 328, 0, "HeronsBench$ActRun"), (0, 34, 0, 1, 329, 0, "HeronsBench$ActRun"), (2, 27, 0, 1, 330, 0, "HeronsBench$ActRun"), (2, 23, 0, 2, 331, 0, "HeronsBench$ActRun"), (0, 40, 0, 2, 332, 0, "HeronsBench$ActRun"), (1, 23, 0, 3, 333, 0, "HeronsBench$ActRun"), (0, 48, 0, 3, 334, 0, "HeronsBench$ActRun"), (0, 15, 0, 4, 335, 0, "HeronsBench$ActRun"), (11, 256, 0, 4, 336, 0, "HeronsBench$ActRun"), (0, 9, 0, 5, 337, 0, "HeronsBench$ActRun"), (11, 301, 0, 5, 338, 0, "HeronsBench$ActRun"), (8, 7, 1, 0, 359, 0, "HeronsBench$VesselActs"), (8, 7, 2, 0, 359, 0, "HeronsBench$VesselActs"), (8, 7, 6, 0, 359, 0, "HeronsBench$VesselActs"), (8, 7, 7, 0, 359, 0, "HeronsBench$VesselActs"), (8, 7, 8, 0, 359, 0, "HeronsBench$VesselActs"), (7, 7, 7, 0, 360, 361, "HeronsBench$TipperActs"), (6, 7, 6, 0, 362, 363, "HeronsBench$SiphonActs"), (1, 7, 1, 0, 364, 365, "HeronsBench$ClockActs"), (2, 7, 1, 0, 366, 367, "HeronsBench$FloatActs"), (2, 7, 2, 0, 366, 367, "HeronsBench$FloatActs"), (11, 10, 11, 0, 403, 0, "HeronsBench"), (11, 21, 11, 1, 404, 0, "HeronsBench"), (11, 25, 11, 2, 405, 0, "HeronsBench"), (11, 31, 11, 3, 406, 0, "HeronsBench"), (11, 38, 11, 4, 407, 0, "HeronsBench"), (11, 45, 11, 5, 408, 0, "HeronsBench"), (11, 51, 11, 6, 409, 0, "HeronsBench"), (11, 70, 11, 7, 410, 0, "HeronsBench"), (12, 114, 12, 0, 920, 0, "HeronsBenchModel"), (12, 7, 12, 1, 921, 0, "HeronsBenchModel"), (12, 13, 12, 2, 922, 0, "HeronsBenchModel"), (12, 16, 12, 3, 923, 0, "HeronsBenchModel"), (12, 19, 12, 4, 924, 0, "HeronsBenchModel"), (12, 22, 12, 5, 925, 0, "HeronsBenchModel"), (12, 25, 12, 6, 926, 0, "HeronsBenchModel"), (12, 28, 12, 7, 927, 0, "HeronsBenchModel"), (12, 121, 12, 8, 928, 0, "HeronsBenchModel"), (12, 31, 12, 9, 929, 0, "HeronsBenchModel"), (12, 34, 12, 10, 930, 0, "HeronsBenchModel"), (12, 37, 12, 11, 931, 0, "HeronsBenchModel"), (12, 40, 12, 12, 932, 0, "HeronsBenchModel"), (12, 172, 12, 13, 933, 0, "HeronsBenchModel"), (12, 175, 12, 14, 934, 0, "HeronsBenchModel"), (12, 178, 12, 15, 935, 0, "HeronsBenchModel"), (12, 44, 12, 16, 936, 0, "HeronsBenchModel"), (12, 48, 12, 17, 937, 0, "HeronsBenchModel"), (12, 52, 12, 18, 938, 0, "HeronsBenchModel"), (12, 55, 12, 19, 939, 0, "HeronsBenchModel"), (12, 183, 12, 20, 940, 0, "HeronsBenchModel"), (12, 225, 12, 21, 941, 0, "HeronsBenchModel"), (12, 58, 12, 22, 942, 0, "HeronsBenchModel"), (12, 62, 12, 23, 943, 0, "HeronsBenchModel"), (12, 65, 12, 24, 944, 0, "HeronsBenchModel"), (12, 68, 12, 25, 945, 0, "HeronsBenchModel"), (12, 71, 12, 26, 946, 0, "HeronsBenchModel"), (12, 111, 12, 27, 947, 0, "HeronsBenchModel"), (12, 74, 12, 28, 948, 0, "HeronsBenchModel"), (12, 246, 12, 29, 949, 0, "HeronsBenchModel"), (12, 77, 12, 30, 950, 0, "HeronsBenchModel"), (12, 80, 12, 31, 951, 0, "HeronsBenchModel"), (12, 83, 12, 32, 952, 0, "HeronsBenchModel"), (12, 86, 12, 33, 953, 0, "HeronsBenchModel"), (12, 127, 12, 34, 954, 0, "HeronsBenchModel"), (12, 124, 12, 35, 955, 0, "HeronsBenchModel"), (12, 148, 12, 36, 956, 0, "HeronsBenchModel"), (12, 145, 12, 37, 957, 0, "HeronsBenchModel"), (12, 142, 12, 38, 958, 0, "HeronsBenchModel"), (12, 161, 12, 39, 959, 0, "HeronsBenchModel"), (12, 89, 12, 40, 960, 0, "HeronsBenchModel"), (12, 92, 12, 41, 961, 0, "HeronsBenchModel"), (12, 186, 12, 42, 962, 0, "HeronsBenchModel"), (12, 249, 12, 43, 963, 0, "HeronsBenchModel"), (12, 252, 12, 44, 964, 0, "HeronsBenchModel"), (12, 255, 12, 45, 965, 0, "HeronsBenchModel"), (12, 258, 12, 46, 966, 0, "HeronsBenchModel"), (12, 261, 12, 47, 967, 0, "HeronsBenchModel"), (12, 96, 12, 48, 968, 0, "HeronsBenchModel"), (12, 99, 12, 49, 969, 0, "HeronsBenchModel"), (12, 102, 12, 50, 970, 0, "HeronsBenchModel"), (12, 105, 12, 51, 971, 0, "HeronsBenchModel"), (12, 108, 12, 52, 972, 0, "HeronsBenchModel"), (12, 272, 12, 53, 973, 0, "HeronsBenchModel"), (12, 275, 12, 54, 974, 0, "HeronsBenchModel")]
def zcn : List (Nat × Nat × Nat × Nat × Nat × Nat) := [(13, 7, 11, 75, 76, 60), (11, 7, 4, 83, 84, 61), (11, 16, 10, 147, 148, 62), (10, 9, 9, 153, 154, 63), (11, 28, 3, 263, 264, 64), (11, 35, 5, 286, 287, 65), (11, 42, 0, 320, 321, 66), (11, 49, 8, 352, 354, 67), (11, 58, 6, 371, 372, 68), (11, 61, 7, 379, 380, 69), (11, 64, 2, 387, 388, 70), (11, 67, 1, 395, 396, 71), (13, 10, 12, 914, 915, 72)]
def zkI : List (Nat × Nat × Int32 × Nat) := [(11, 218, -1000000, 690), (12, 245, -1000000, 1238)]
def zkL : List (Nat × Nat × Int64 × Nat) := [(10, 175, 10000, 521), (11, 201, -1, 676), (12, 181, 10000, 1217), (12, 243, -1, 1229), (12, 267, 100000000, 1283)]
def zy (M : Nat) : MethodName := zyl.getD M ⟨"", "", ""⟩
def zc (M : Nat) : ByteArray := zcL.getD M ⟨#[]⟩
def zN (M : Nat) : Nat := zNl.getD M 0
def zret (M : Nat) : Option FieldType := zRt.getD M none
def zrm (M : Nat) : Room := zRm.getD M ⟨0, 0, 0, 0⟩
def zoc (M : Nat) : Nat := zOc.getD M 99
def zR (o : Nat) : String := zRn.getD o ""
def zini (M : Nat) : Bool := (zy M).name == "<init>"
def zwt : List Cond := lw_tbl.filter goodWord
def zws (M : Nat) : List Cond := Cond.code (zy M) (zc M) (zN M) (zret M) :: zwt
/-- the words of a call, by its kind -/
def zwd (e : zCe) : List Cond := match e with
  | (M, idx, ci, kd, M1, _, Mx, _) =>
    if kd = 0 then [.methodLink (zy M).cls idx (zy M1), .instanceMethod (zy M1), .selects (zR ci) (zy M1) (zy M1), .initialized (zR ci)]
    else if kd = 1 then [.methodLink (zy M).cls idx (zy Mx), .sameMethod (zy Mx).cls (zy Mx).cls (zy Mx).name (zy Mx).desc, .instanceMethod (zy Mx), .selects (zR ci) (zy Mx) (zy M1), .instanceMethod (zy M1), .initialized (zy M1).cls]
    else if kd = 2 then [.methodLink (zy M).cls idx (zy M1), .static (zy M1), .initialized (zy M1).cls]
    else if kd = 3 then [.static (zy M1), .initialized (zy M1).cls]
    else if kd = 4 then [.methodLink (zy M).cls idx (zy M1), .instanceMethod (zy M1), .initialized (zy M1).cls]
    else if kd = 5 then [.instanceMethod (zy M1), .initialized (zy M1).cls]
    else if kd = 6 then [.methodLink (zy M).cls idx (zy M1), .sameMethod (zy M1).cls (zy M1).cls (zy M1).name (zy M1).desc, .superclass (zy M).cls (zy M1).cls, .instanceMethod (zy M1), .initialized (zy M1).cls]
    else if kd = 7 then [.methodLink (zy M).cls idx objectInit, .instanceMethod objectInit]
    else if kd = 8 then [.methodLink (zy M).cls idx arraycopyName, .native arraycopyName, .static arraycopyName, .initialized "java/lang/System"]
    else []
/-- what else must hold of a call -/
def zcr (e : zCe) : Bool := match e with
  | (M, _, ci, kd, M1, n, Mx, _) =>
    if kd = 7 then decide (1 ≤ (zrm M).frames) && decide (20 ≤ (zrm M).locals)
    else if kd = 8 then decide (1 ≤ (zrm M).frames) && decide (nativeFrameWords "java/lang/System" "arraycopy" 5 + 11 + 8 ≤ (zrm M).locals)
    else decide ((zrm M1).frames + 1 ≤ (zrm M).frames) && decide (8 + (zN M1 + 11) + (zrm M1).locals ≤ (zrm M).locals) && decide ((zy M1).cls ≠ "java/lang/invoke/MethodHandle") && decide ((zy M1).cls ≠ "java/lang/invoke/VarHandle")
      && decide ((parseMethodDescriptor (zy M1).desc).map (fun d => d.parameters.length) = some n) && decide (M1 < 189) && plainFor (zy M1)
      && (if kd = 0 then decide ((zy M1).cls = zR ci) else if kd = 1 then decide ((zy Mx).cls ≠ "java/lang/invoke/MethodHandle") && decide ((zy Mx).cls ≠ "java/lang/invoke/VarHandle") && decide (Mx < 189) && decide ((zy Mx).name = (zy M1).name) && decide ((zy Mx).desc = (zy M1).desc) else if kd = 4 then decide ((zy M1).name = "<init>") && decide (zret M1 = none) else if kd = 5 then decide ((zy M1).name = "<init>") && decide (zret M1 = none) else if kd = 6 then decide ((zy M1).name ≠ "<init>") else true)
def zcok (e : zCe) : Bool := zcr e && decide (e.2.2.2.2.2.2.2.map (fun i => lw_tbl[i]?) = (zwd e).map some) && (zwd e).all goodWord
def znest : List Cond := [.methodLinkNest RX11 9 yX4_init RX11, .methodLinkNest RX10 11 yX9_init RX11, .methodLinkNest RX11 30 yX3_init RX11, .methodLinkNest RX11 37 yX5_init RX11, .methodLinkNest RX11 44 yX0_init RX11, .methodLinkNest RX10 183 yX11_gcd RX11, .methodLinkNest RX3 52 yX11_above RX11, .methodLinkNest RX3 56 yX11_below RX11, .methodLinkNest RX5 62 yX11_above RX11, .methodLinkNest RX5 66 yX11_below RX11]
theorem znest_at : [85, 155, 265, 288, 322, 518, 526, 530, 777, 778].map (fun i => lw_tbl[i]?) = znest.map some := by decide +kernel
theorem znest_in : ∀ e ∈ zcp, (e.2.2.2.1 = 3 ∨ e.2.2.2.1 = 5) → Cond.methodLinkNest (zy e.1).cls e.2.1 (zy e.2.2.2.2.1) RX11 ∈ znest := by decide +kernel
def zfok (e : zFe) : Bool := match e with
  | (o, idx, ci, j, p, p2, ref) => match vwCl[ci]? with
    | none => false
    | some q => decide (j < q.2.2) && decide (lw_tbl[p]? = some (.fieldLink (zR o) idx ref (q.2.1 j).2.1 (q.2.1 j).2.2.1)) && (decide (ref = (q.2.1 j).1) || decide (lw_tbl[p2]? = some (.sameField ref (q.2.1 j).1 (q.2.1 j).2.1 (q.2.1 j).2.2.1)))
theorem zfp_ok : ∀ e ∈ zfp, zfok e = true := by decide +kernel
theorem zown_at : ∀ M, M < 190 → (zy M).cls = zR (zoc M) ∧ (zy M).cls ≠ "" := by decide +kernel
def zcnok (e : Nat × Nat × Nat × Nat × Nat × Nat) : Bool := match vwCl[e.2.2.1]? with
  | none => false
  | some q => decide (lw_tbl[e.2.2.2.1]? = some (.classLink (zR e.1) e.2.1 q.1)) && decide (lw_tbl[e.2.2.2.2.1]? = some (.instantiable q.1 q.2.2)) && decide (lw_tbl[e.2.2.2.2.2]? = some (.initialized q.1))
theorem zcn_ok : ∀ e ∈ zcn, zcnok e = true := by decide +kernel
theorem zkI_ok : ∀ e ∈ zkI, lw_tbl[e.2.2.2]? = some (.constant (zR e.1) e.2.1 e.2.2.1) := by decide +kernel
theorem zkL_ok : ∀ e ∈ zkL, lw_tbl[e.2.2.2]? = some (.constantLong (zR e.1) e.2.1 e.2.2.1) := by decide +kernel
theorem zcp0_ok : ∀ e ∈ zcp0, zcok e = true := by decide +kernel
theorem zcp1_ok : ∀ e ∈ zcp1, zcok e = true := by decide +kernel
theorem zcp2_ok : ∀ e ∈ zcp2, zcok e = true := by decide +kernel
theorem zcp3_ok : ∀ e ∈ zcp3, zcok e = true := by decide +kernel
theorem zcp4_ok : ∀ e ∈ zcp4, zcok e = true := by decide +kernel
theorem zcp5_ok : ∀ e ∈ zcp5, zcok e = true := by decide +kernel
theorem zcp6_ok : ∀ e ∈ zcp6, zcok e = true := by decide +kernel
theorem zcp7_ok : ∀ e ∈ zcp7, zcok e = true := by decide +kernel
theorem zcp_ok : ∀ e ∈ zcp, zcok e = true := List.forall_mem_append.mpr ⟨zcp0_ok, List.forall_mem_append.mpr ⟨zcp1_ok, List.forall_mem_append.mpr ⟨zcp2_ok, List.forall_mem_append.mpr ⟨zcp3_ok, List.forall_mem_append.mpr ⟨zcp4_ok, List.forall_mem_append.mpr ⟨zcp5_ok, List.forall_mem_append.mpr ⟨zcp6_ok, zcp7_ok⟩⟩⟩⟩⟩⟩⟩
end
section
theorem zme1 {w : Cond} (h : w ∈ tables_1_1) : w ∈ lw_tbl := List.mem_append_right _ (List.mem_append_left _ h)
theorem zme2 {w : Cond} (h : w ∈ tables_1_2) : w ∈ lw_tbl := List.mem_append_right _ (List.mem_append_right _ (List.mem_append_left _ h))
theorem zme3 {w : Cond} (h : w ∈ tables_1_3) : w ∈ lw_tbl := List.mem_append_right _ (List.mem_append_right _ (List.mem_append_right _ (List.mem_append_left _ h)))
theorem zme4 {w : Cond} (h : w ∈ tables_1_4) : w ∈ lw_tbl := List.mem_append_right _ (List.mem_append_right _ (List.mem_append_right _ (List.mem_append_right _ (List.mem_append_left _ h))))
theorem zme5 {w : Cond} (h : w ∈ tables_1_5) : w ∈ lw_tbl := List.mem_append_right _ (List.mem_append_right _ (List.mem_append_right _ (List.mem_append_right _ (List.mem_append_right _ (List.mem_append_left _ h)))))
theorem zme6 {w : Cond} (h : w ∈ tables_1_6) : w ∈ lw_tbl := List.mem_append_right _ (List.mem_append_right _ (List.mem_append_right _ (List.mem_append_right _ (List.mem_append_right _ (List.mem_append_right _ (h))))))
theorem zcm0 : Cond.code yX0_init cX0_init 1 none ∈ lw_tbl := zme2 (List.mem_of_getElem? (i := 25) rfl)
theorem zcm1 : Cond.code yX0_begin cX0_begin 4 none ∈ lw_tbl := zme4 (List.mem_of_getElem? (i := 27) rfl)
theorem zcm2 : Cond.code yX0_began cX0_began 2 none ∈ lw_tbl := zme4 (List.mem_of_getElem? (i := 39) rfl)
theorem zcm3 : Cond.code yX1_init cX1_init 2 none ∈ lw_tbl := zme2 (List.mem_of_getElem? (i := 100) rfl)
theorem zcm4 : Cond.code yX1_countBody cX1_countBody 2 (some .int) ∈ lw_tbl := zme4 (List.mem_of_getElem? (i := 76) rfl)
theorem zcm5 : Cond.code yX1_turnBody cX1_turnBody 2 (some .int) ∈ lw_tbl := zme4 (List.mem_of_getElem? (i := 56) rfl)
theorem zcm6 : Cond.code yX2_init cX2_init 2 none ∈ lw_tbl := zme2 (List.mem_of_getElem? (i := 92) rfl)
theorem zcm7 : Cond.code yX2_countBody cX2_countBody 2 (some .int) ∈ lw_tbl := zme4 (List.mem_of_getElem? (i := 79) rfl)
theorem zcm8 : Cond.code yX2_fillBody cX2_fillBody 2 (some .int) ∈ lw_tbl := zme4 (List.mem_of_getElem? (i := 35) rfl)
theorem zcm9 : Cond.code yX3_init cX3_init 1 none ∈ lw_tbl := zme1 (List.mem_of_getElem? (i := 208) rfl)
theorem zcm10 : Cond.code yX3_take cX3_take 3 none ∈ lw_tbl := zme2 (List.mem_of_getElem? (i := 226) rfl)
theorem zcm11 : Cond.code yX3_toldOf cX3_toldOf 3 (some .int) ∈ lw_tbl := zme3 (List.mem_of_getElem? (i := 190) rfl)
theorem zcm12 : Cond.code yX4_init cX4_init 1 none ∈ lw_tbl := zme1 (List.mem_of_getElem? (i := 28) rfl)
theorem zcm13 : Cond.code yX4_hasVessel cX4_hasVessel 2 (some .boolean) ∈ lw_tbl := zme2 (List.mem_of_getElem? (i := 171) rfl)
theorem zcm14 : Cond.code yX4_hasPipe cX4_hasPipe 2 (some .boolean) ∈ lw_tbl := zme3 (List.mem_of_getElem? (i := 17) rfl)
theorem zcm15 : Cond.code yX4_kindOf cX4_kindOf 2 (some .int) ∈ lw_tbl := zme2 (List.mem_of_getElem? (i := 155) rfl)
theorem zcm16 : Cond.code yX4_brimOf cX4_brimOf 2 (some .int) ∈ lw_tbl := zme4 (List.mem_of_getElem? (i := 126) rfl)
theorem zcm17 : Cond.code yX4_isFloat cX4_isFloat 3 (some .boolean) ∈ lw_tbl := zme2 (List.mem_of_getElem? (i := 202) rfl)
theorem zcm18 : Cond.code yX4_hasHigh cX4_hasHigh 2 (some .boolean) ∈ lw_tbl := zme3 (List.mem_of_getElem? (i := 6) rfl)
theorem zcm19 : Cond.code yX4_liesBelow cX4_liesBelow 3 (some .boolean) ∈ lw_tbl := zme3 (List.mem_of_getElem? (i := 26) rfl)
theorem zcm20 : Cond.code yX4_addVessel cX4_addVessel 4 (some .int) ∈ lw_tbl := zme2 (List.mem_of_getElem? (i := 143) rfl)
theorem zcm21 : Cond.code yX4_addPipe cX4_addPipe 4 (some .int) ∈ lw_tbl := zme3 (List.mem_of_getElem? (i := 39) rfl)
theorem zcm22 : Cond.code yX4_siphonOf cX4_siphonOf 4 (some .int) ∈ lw_tbl := zme3 (List.mem_of_getElem? (i := 78) rfl)
theorem zcm23 : Cond.code yX4_toldOf cX4_toldOf 3 (some .int) ∈ lw_tbl := zme3 (List.mem_of_getElem? (i := 172) rfl)
theorem zcm24 : Cond.code yX5_init cX5_init 1 none ∈ lw_tbl := zme1 (List.mem_of_getElem? (i := 231) rfl)
theorem zcm25 : Cond.code yX5_seek cX5_seek 4 (some .int) ∈ lw_tbl := zme3 (List.mem_of_getElem? (i := 213) rfl)
theorem zcm26 : Cond.code yX5_toldOf cX5_toldOf 2 (some .int) ∈ lw_tbl := zme3 (List.mem_of_getElem? (i := 237) rfl)
theorem zcm27 : Cond.code yX5_keep cX5_keep 3 none ∈ lw_tbl := zme3 (List.mem_of_getElem? (i := 217) rfl)
theorem zcm28 : Cond.code yX5_firstLike cX5_firstLike 4 (some .int) ∈ lw_tbl := zme3 (List.mem_of_getElem? (i := 225) rfl)
theorem zcm29 : Cond.code yX5_isLike cX5_isLike 4 (some .boolean) ∈ lw_tbl := zme3 (List.mem_of_getElem? (i := 229) rfl)
theorem zcm30 : Cond.code yX5_tell cX5_tell 3 none ∈ lw_tbl := zme3 (List.mem_of_getElem? (i := 233) rfl)
theorem zcm31 : Cond.code yX6_init cX6_init 2 none ∈ lw_tbl := zme2 (List.mem_of_getElem? (i := 76) rfl)
theorem zcm32 : Cond.code yX6_turnBody cX6_turnBody 2 (some .int) ∈ lw_tbl := zme4 (List.mem_of_getElem? (i := 64) rfl)
theorem zcm33 : Cond.code yX6_tellBody cX6_tellBody 2 (some .int) ∈ lw_tbl := zme4 (List.mem_of_getElem? (i := 93) rfl)
theorem zcm34 : Cond.code yX7_init cX7_init 2 none ∈ lw_tbl := zme2 (List.mem_of_getElem? (i := 84) rfl)
theorem zcm35 : Cond.code yX7_fillBody cX7_fillBody 2 (some .int) ∈ lw_tbl := zme4 (List.mem_of_getElem? (i := 45) rfl)
theorem zcm36 : Cond.code yX8_init cX8_init 2 none ∈ lw_tbl := zme2 (List.mem_of_getElem? (i := 58) rfl)
theorem zcm37 : Cond.code yX8_fillBody cX8_fillBody 2 (some .int) ∈ lw_tbl := zme4 (List.mem_of_getElem? (i := 48) rfl)
theorem zcm38 : Cond.code yX8_turnBody cX8_turnBody 2 (some .int) ∈ lw_tbl := zme4 (List.mem_of_getElem? (i := 68) rfl)
theorem zcm39 : Cond.code yX8_countBody cX8_countBody 2 (some .int) ∈ lw_tbl := zme4 (List.mem_of_getElem? (i := 84) rfl)
theorem zcm40 : Cond.code yX8_tellBody cX8_tellBody 2 (some .int) ∈ lw_tbl := zme4 (List.mem_of_getElem? (i := 96) rfl)
theorem zcm41 : Cond.code yX9_init cX9_init 1 none ∈ lw_tbl := zme1 (List.mem_of_getElem? (i := 98) rfl)
theorem zcm42 : Cond.code yX9_takeOver cX9_takeOver 2 none ∈ lw_tbl := zme3 (List.mem_of_getElem? (i := 206) rfl)
theorem zcm43 : Cond.code yX9_isOpen cX9_isOpen 2 (some .boolean) ∈ lw_tbl := zme2 (List.mem_of_getElem? (i := 206) rfl)
theorem zcm44 : Cond.code yX9_setOpen cX9_setOpen 3 none ∈ lw_tbl := zme2 (List.mem_of_getElem? (i := 210) rfl)
theorem zcm45 : Cond.code yX9_isSiphoning cX9_isSiphoning 2 (some .boolean) ∈ lw_tbl := zme2 (List.mem_of_getElem? (i := 186) rfl)
theorem zcm46 : Cond.code yX9_setSiphoning cX9_setSiphoning 3 none ∈ lw_tbl := zme2 (List.mem_of_getElem? (i := 190) rfl)
theorem zcm47 : Cond.code yX10_init cX10_init 2 none ∈ lw_tbl := zme1 (List.mem_of_getElem? (i := 92) rfl)
theorem zcm48 : Cond.code yX10_runs cX10_runs 3 (some .boolean) ∈ lw_tbl := zme3 (List.mem_of_getElem? (i := 74) rfl)
theorem zcm49 : Cond.code yX10_reckonRates cX10_reckonRates 2 none ∈ lw_tbl := zme3 (List.mem_of_getElem? (i := 70) rfl)
theorem zcm50 : Cond.code yX10_reckonVessel cX10_reckonVessel 6 none ∈ lw_tbl := zme3 (List.mem_of_getElem? (i := 86) rfl)
theorem zcm51 : Cond.code yX10_bring cX10_bring 3 none ∈ lw_tbl := zme3 (List.mem_of_getElem? (i := 82) rfl)
theorem zcm52 : Cond.code yX10_isFull cX10_isFull 2 (some .boolean) ∈ lw_tbl := zme2 (List.mem_of_getElem? (i := 159) rfl)
theorem zcm53 : Cond.code yX10_seekNext cX10_seekNext 2 none ∈ lw_tbl := zme3 (List.mem_of_getElem? (i := 66) rfl)
theorem zcm54 : Cond.code yX10_seekRise cX10_seekRise 3 none ∈ lw_tbl := zme3 (List.mem_of_getElem? (i := 93) rfl)
theorem zcm55 : Cond.code yX10_seekFall cX10_seekFall 2 none ∈ lw_tbl := zme3 (List.mem_of_getElem? (i := 101) rfl)
theorem zcm56 : Cond.code yX10_ownIs cX10_ownIs 4 (some .boolean) ∈ lw_tbl := zme2 (List.mem_of_getElem? (i := 198) rfl)
theorem zcm57 : Cond.code yX10_offer cX10_offer 5 none ∈ lw_tbl := zme3 (List.mem_of_getElem? (i := 97) rfl)
theorem zcm58 : Cond.code yX10_rests cX10_rests 1 (some .boolean) ∈ lw_tbl := zme3 (List.mem_of_getElem? (i := 105) rfl)
theorem zcm59 : Cond.code yX10_nextMomentAbove cX10_nextMomentAbove 1 (some .long) ∈ lw_tbl := zme3 (List.mem_of_getElem? (i := 113) rfl)
theorem zcm60 : Cond.code yX10_nextMomentBelow cX10_nextMomentBelow 1 (some .long) ∈ lw_tbl := zme3 (List.mem_of_getElem? (i := 117) rfl)
theorem zcm61 : Cond.code yX10_nextIsBehind cX10_nextIsBehind 2 (some .boolean) ∈ lw_tbl := zme3 (List.mem_of_getElem? (i := 109) rfl)
theorem zcm62 : Cond.code yX10_isBehind cX10_isBehind 2 (some .boolean) ∈ lw_tbl := zme3 (List.mem_of_getElem? (i := 62) rfl)
theorem zcm63 : Cond.code yX10_isAt cX10_isAt 2 (some .boolean) ∈ lw_tbl := zme4 (List.mem_of_getElem? (i := 19) rfl)
theorem zcm64 : Cond.code yX10_isAhead cX10_isAhead 2 (some .boolean) ∈ lw_tbl := zme4 (List.mem_of_getElem? (i := 7) rfl)
theorem zcm65 : Cond.code yX10_inVessels cX10_inVessels 4 (some .long) ∈ lw_tbl := zme3 (List.mem_of_getElem? (i := 198) rfl)
theorem zcm66 : Cond.code yX10_step cX10_step 1 (some .boolean) ∈ lw_tbl := zme3 (List.mem_of_getElem? (i := 125) rfl)
theorem zcm67 : Cond.code yX10_passTo cX10_passTo 2 none ∈ lw_tbl := zme3 (List.mem_of_getElem? (i := 121) rfl)
theorem zcm68 : Cond.code yX10_advance cX10_advance 10 (some .boolean) ∈ lw_tbl := zme2 (List.mem_of_getElem? (i := 214) rfl)
theorem zcm69 : Cond.code yX10_commonBehind cX10_commonBehind 10 (some .long) ∈ lw_tbl := zme2 (List.mem_of_getElem? (i := 218) rfl)
theorem zcm70 : Cond.code yX10_settle cX10_settle 2 none ∈ lw_tbl := zme2 (List.mem_of_getElem? (i := 151) rfl)
theorem zcm71 : Cond.code yX10_tip cX10_tip 4 none ∈ lw_tbl := zme2 (List.mem_of_getElem? (i := 163) rfl)
theorem zcm72 : Cond.code yX10_pourTo cX10_pourTo 10 none ∈ lw_tbl := zme2 (List.mem_of_getElem? (i := 167) rfl)
theorem zcm73 : Cond.code yX10_settleSiphon cX10_settleSiphon 2 none ∈ lw_tbl := zme2 (List.mem_of_getElem? (i := 182) rfl)
theorem zcm74 : Cond.code yX10_settleFloat cX10_settleFloat 2 none ∈ lw_tbl := zme2 (List.mem_of_getElem? (i := 194) rfl)
theorem zcm75 : Cond.code yX10_happen cX10_happen 3 none ∈ lw_tbl := zme2 (List.mem_of_getElem? (i := 178) rfl)
theorem zcm76 : Cond.code yX10_hasHappened cX10_hasHappened 4 (some .boolean) ∈ lw_tbl := zme4 (List.mem_of_getElem? (i := 15) rfl)
theorem zcm77 : Cond.code yX11_init cX11_init 1 none ∈ lw_tbl := zme1 (List.mem_of_getElem? (i := 20) rfl)
theorem zcm78 : Cond.code yX11_vessel cX11_vessel 4 (some .int) ∈ lw_tbl := zme2 (List.mem_of_getElem? (i := 132) rfl)
theorem zcm79 : Cond.code yX11_marks cX11_marks 4 (some .int) ∈ lw_tbl := zme3 (List.mem_of_getElem? (i := 1) rfl)
theorem zcm80 : Cond.code yX11_own cX11_own 4 (some .int) ∈ lw_tbl := zme3 (List.mem_of_getElem? (i := 13) rfl)
theorem zcm81 : Cond.code yX11_tips cX11_tips 3 (some .int) ∈ lw_tbl := zme3 (List.mem_of_getElem? (i := 22) rfl)
theorem zcm82 : Cond.code yX11_over cX11_over 3 (some .int) ∈ lw_tbl := zme3 (List.mem_of_getElem? (i := 31) rfl)
theorem zcm83 : Cond.code yX11_pipe cX11_pipe 7 (some .int) ∈ lw_tbl := zme3 (List.mem_of_getElem? (i := 35) rfl)
theorem zcm84 : Cond.code yX11_fill cX11_fill 3 (some .int) ∈ lw_tbl := zme3 (List.mem_of_getElem? (i := 44) rfl)
theorem zcm85 : Cond.code yX11_shut cX11_shut 4 (some .int) ∈ lw_tbl := zme3 (List.mem_of_getElem? (i := 49) rfl)
theorem zcm86 : Cond.code yX11_amount cX11_amount 4 (some .int) ∈ lw_tbl := zme3 (List.mem_of_getElem? (i := 54) rfl)
theorem zcm87 : Cond.code yX11_go cX11_go 4 (some .int) ∈ lw_tbl := zme3 (List.mem_of_getElem? (i := 58) rfl)
theorem zcm88 : Cond.code yX11_now cX11_now 2 (some .int) ∈ lw_tbl := zme3 (List.mem_of_getElem? (i := 130) rfl)
theorem zcm89 : Cond.code yX11_next cX11_next 2 (some .long) ∈ lw_tbl := zme3 (List.mem_of_getElem? (i := 136) rfl)
theorem zcm90 : Cond.code yX11_level cX11_level 3 (some .int) ∈ lw_tbl := zme3 (List.mem_of_getElem? (i := 146) rfl)
theorem zcm91 : Cond.code yX11_rate cX11_rate 2 (some .int) ∈ lw_tbl := zme3 (List.mem_of_getElem? (i := 150) rfl)
theorem zcm92 : Cond.code yX11_flow cX11_flow 2 (some .int) ∈ lw_tbl := zme3 (List.mem_of_getElem? (i := 156) rfl)
theorem zcm93 : Cond.code yX11_flood cX11_flood 2 (some .int) ∈ lw_tbl := zme3 (List.mem_of_getElem? (i := 160) rfl)
theorem zcm94 : Cond.code yX11_told cX11_told 3 (some .int) ∈ lw_tbl := zme3 (List.mem_of_getElem? (i := 164) rfl)
theorem zcm95 : Cond.code yX11_pipeTold cX11_pipeTold 3 (some .int) ∈ lw_tbl := zme3 (List.mem_of_getElem? (i := 177) rfl)
theorem zcm96 : Cond.code yX11_count cX11_count 2 (some .int) ∈ lw_tbl := zme3 (List.mem_of_getElem? (i := 182) rfl)
theorem zcm97 : Cond.code yX11_event cX11_event 3 (some .int) ∈ lw_tbl := zme3 (List.mem_of_getElem? (i := 186) rfl)
theorem zcm98 : Cond.code yX11_sum cX11_sum 3 (some .long) ∈ lw_tbl := zme3 (List.mem_of_getElem? (i := 194) rfl)
theorem zcm99 : Cond.code yX11_round cX11_round 3 (some .int) ∈ lw_tbl := zme3 (List.mem_of_getElem? (i := 202) rfl)
theorem zcm100 : Cond.code yX11_tune cX11_tune 7 (some .int) ∈ lw_tbl := zme4 (List.mem_of_getElem? (i := 3) rfl)
theorem zcm101 : Cond.code yX11_act cX11_act 6 (some .int) ∈ lw_tbl := zme4 (List.mem_of_getElem? (i := 23) rfl)
theorem zcm102 : Cond.code yX11_trace cX11_trace 2 (some .int) ∈ lw_tbl := zme4 (List.mem_of_getElem? (i := 102) rfl)
theorem zcm103 : Cond.code yX11_forge cX11_forge 4 (some .int) ∈ lw_tbl := zme4 (List.mem_of_getElem? (i := 106) rfl)
theorem zcm104 : Cond.code yX11_status cX11_status 1 (some .int) ∈ lw_tbl := zme4 (List.mem_of_getElem? (i := 134) rfl)
theorem zcm105 : Cond.code yX11_refused cX11_refused 2 (some .int) ∈ lw_tbl := zme2 (List.mem_of_getElem? (i := 139) rfl)
theorem zcm106 : Cond.code yX11_answered cX11_answered 2 (some .int) ∈ lw_tbl := zme2 (List.mem_of_getElem? (i := 237) rfl)
theorem zcm107 : Cond.code yX11_handDid cX11_handDid 2 (some .int) ∈ lw_tbl := zme2 (List.mem_of_getElem? (i := 147) rfl)
theorem zcm108 : Cond.code yX11_firstShutsAt cX11_firstShutsAt 4 (some .boolean) ∈ lw_tbl := zme4 (List.mem_of_getElem? (i := 11) rfl)
theorem zcm109 : Cond.code yX11_takenFor cX11_takenFor 4 (some .int) ∈ lw_tbl := zme4 (List.mem_of_getElem? (i := 113) rfl)
theorem zcm110 : Cond.code yX11_copiedBrims cX11_copiedBrims 5 (some .int) ∈ lw_tbl := zme4 (List.mem_of_getElem? (i := 122) rfl)
theorem zcm111 : Cond.code yX11_putAmongFloats cX11_putAmongFloats 2 (some .int) ∈ lw_tbl := zme4 (List.mem_of_getElem? (i := 130) rfl)
theorem zcm112 : Cond.code yX11_within cX11_within 3 (some .boolean) ∈ lw_tbl := zme2 (List.mem_of_getElem? (i := 135) rfl)
theorem zcm113 : Cond.code yX11_asNumber cX11_asNumber 1 (some .int) ∈ lw_tbl := zme3 (List.mem_of_getElem? (i := 168) rfl)
theorem zcm114 : Cond.code yX11_isKindOrUnder cX11_isKindOrUnder 4 (some .boolean) ∈ lw_tbl := zme4 (List.mem_of_getElem? (i := 116) rfl)
theorem zcm115 : Cond.code yX11_gcd cX11_gcd 11 (some .long) ∈ lw_tbl := zme2 (List.mem_of_getElem? (i := 221) rfl)
theorem zcm116 : Cond.code yX11_above cX11_above 6 (some .long) ∈ lw_tbl := zme2 (List.mem_of_getElem? (i := 229) rfl)
theorem zcm117 : Cond.code yX11_below cX11_below 6 (some .long) ∈ lw_tbl := zme2 (List.mem_of_getElem? (i := 233) rfl)
theorem zcm118 : Cond.code yX11_part cX11_part 5 (some .long) ∈ lw_tbl := zme3 (List.mem_of_getElem? (i := 142) rfl)
theorem zcm119 : Cond.code yX12_init cX12_init 1 none ∈ lw_tbl := zme4 (List.mem_of_getElem? (i := 139) rfl)
theorem zcm120 : Cond.code yX12_in cX12_in 3 (some .boolean) ∈ lw_tbl := zme5 (List.mem_of_getElem? (i := 74) rfl)
theorem zcm121 : Cond.code yX12_refused cX12_refused 2 (some .int) ∈ lw_tbl := zme5 (List.mem_of_getElem? (i := 78) rfl)
theorem zcm122 : Cond.code yX12_done cX12_done 2 (some .int) ∈ lw_tbl := zme5 (List.mem_of_getElem? (i := 113) rfl)
theorem zcm123 : Cond.code yX12_isVessel cX12_isVessel 2 (some .boolean) ∈ lw_tbl := zme5 (List.mem_of_getElem? (i := 121) rfl)
theorem zcm124 : Cond.code yX12_isPipe cX12_isPipe 2 (some .boolean) ∈ lw_tbl := zme5 (List.mem_of_getElem? (i := 129) rfl)
theorem zcm125 : Cond.code yX12_divisor cX12_divisor 10 (some .long) ∈ lw_tbl := zme5 (List.mem_of_getElem? (i := 109) rfl)
theorem zcm126 : Cond.code yX12_isFloat cX12_isFloat 2 (some .boolean) ∈ lw_tbl := zme5 (List.mem_of_getElem? (i := 98) rfl)
theorem zcm127 : Cond.code yX12_runs cX12_runs 4 (some .boolean) ∈ lw_tbl := zme5 (List.mem_of_getElem? (i := 173) rfl)
theorem zcm128 : Cond.code yX12_goesTo cX12_goesTo 3 none ∈ lw_tbl := zme5 (List.mem_of_getElem? (i := 177) rfl)
theorem zcm129 : Cond.code yX12_rates cX12_rates 2 none ∈ lw_tbl := zme5 (List.mem_of_getElem? (i := 169) rfl)
theorem zcm130 : Cond.code yX12_rateOf cX12_rateOf 5 none ∈ lw_tbl := zme5 (List.mem_of_getElem? (i := 181) rfl)
theorem zcm131 : Cond.code yX12_may cX12_may 6 none ∈ lw_tbl := zme5 (List.mem_of_getElem? (i := 185) rfl)
theorem zcm132 : Cond.code yX12_seek cX12_seek 5 none ∈ lw_tbl := zme5 (List.mem_of_getElem? (i := 165) rfl)
theorem zcm133 : Cond.code yX12_moved cX12_moved 13 (some .long) ∈ lw_tbl := zme5 (List.mem_of_getElem? (i := 197) rfl)
theorem zcm134 : Cond.code yX12_passes cX12_passes 14 (some .boolean) ∈ lw_tbl := zme5 (List.mem_of_getElem? (i := 193) rfl)
theorem zcm135 : Cond.code yX12_lowest cX12_lowest 2 none ∈ lw_tbl := zme5 (List.mem_of_getElem? (i := 106) rfl)
theorem zcm136 : Cond.code yX12_pour cX12_pour 9 none ∈ lw_tbl := zme5 (List.mem_of_getElem? (i := 94) rfl)
theorem zcm137 : Cond.code yX12_note cX12_note 3 none ∈ lw_tbl := zme5 (List.mem_of_getElem? (i := 90) rfl)
theorem zcm138 : Cond.code yX12_moment cX12_moment 4 none ∈ lw_tbl := zme5 (List.mem_of_getElem? (i := 86) rfl)
theorem zcm139 : Cond.code yX12_floats cX12_floats 2 none ∈ lw_tbl := zme5 (List.mem_of_getElem? (i := 102) rfl)
theorem zcm140 : Cond.code yX12_hand cX12_hand 2 (some .int) ∈ lw_tbl := zme5 (List.mem_of_getElem? (i := 82) rfl)
theorem zcm141 : Cond.code yX12_vessel cX12_vessel 4 (some .int) ∈ lw_tbl := zme5 (List.mem_of_getElem? (i := 71) rfl)
theorem zcm142 : Cond.code yX12_marks cX12_marks 4 (some .int) ∈ lw_tbl := zme5 (List.mem_of_getElem? (i := 117) rfl)
theorem zcm143 : Cond.code yX12_own cX12_own 3 (some .int) ∈ lw_tbl := zme5 (List.mem_of_getElem? (i := 125) rfl)
theorem zcm144 : Cond.code yX12_isBehind cX12_isBehind 3 (some .boolean) ∈ lw_tbl := zme5 (List.mem_of_getElem? (i := 137) rfl)
theorem zcm145 : Cond.code yX12_tips cX12_tips 3 (some .int) ∈ lw_tbl := zme5 (List.mem_of_getElem? (i := 133) rfl)
theorem zcm146 : Cond.code yX12_over cX12_over 3 (some .int) ∈ lw_tbl := zme5 (List.mem_of_getElem? (i := 141) rfl)
theorem zcm147 : Cond.code yX12_pipe cX12_pipe 6 (some .int) ∈ lw_tbl := zme5 (List.mem_of_getElem? (i := 145) rfl)
theorem zcm148 : Cond.code yX12_fill cX12_fill 3 (some .int) ∈ lw_tbl := zme5 (List.mem_of_getElem? (i := 149) rfl)
theorem zcm149 : Cond.code yX12_shut cX12_shut 4 (some .int) ∈ lw_tbl := zme5 (List.mem_of_getElem? (i := 153) rfl)
theorem zcm150 : Cond.code yX12_amount cX12_amount 4 (some .int) ∈ lw_tbl := zme5 (List.mem_of_getElem? (i := 157) rfl)
theorem zcm151 : Cond.code yX12_step cX12_step 3 (some .int) ∈ lw_tbl := zme5 (List.mem_of_getElem? (i := 189) rfl)
theorem zcm152 : Cond.code yX12_go cX12_go 6 (some .int) ∈ lw_tbl := zme5 (List.mem_of_getElem? (i := 161) rfl)
theorem zcm153 : Cond.code yX12_part cX12_part 7 (some .long) ∈ lw_tbl := zme5 (List.mem_of_getElem? (i := 205) rfl)
theorem zcm154 : Cond.code yX12_now cX12_now 2 (some .int) ∈ lw_tbl := zme5 (List.mem_of_getElem? (i := 202) rfl)
theorem zcm155 : Cond.code yX12_next cX12_next 4 (some .long) ∈ lw_tbl := zme5 (List.mem_of_getElem? (i := 209) rfl)
theorem zcm156 : Cond.code yX12_level cX12_level 3 (some .int) ∈ lw_tbl := zme5 (List.mem_of_getElem? (i := 214) rfl)
theorem zcm157 : Cond.code yX12_rate cX12_rate 2 (some .int) ∈ lw_tbl := zme5 (List.mem_of_getElem? (i := 218) rfl)
theorem zcm158 : Cond.code yX12_flow cX12_flow 2 (some .int) ∈ lw_tbl := zme5 (List.mem_of_getElem? (i := 223) rfl)
theorem zcm159 : Cond.code yX12_flood cX12_flood 2 (some .int) ∈ lw_tbl := zme5 (List.mem_of_getElem? (i := 227) rfl)
theorem zcm160 : Cond.code yX12_told cX12_told 4 (some .int) ∈ lw_tbl := zme5 (List.mem_of_getElem? (i := 231) rfl)
theorem zcm161 : Cond.code yX12_pipeTold cX12_pipeTold 3 (some .int) ∈ lw_tbl := zme5 (List.mem_of_getElem? (i := 235) rfl)
theorem zcm162 : Cond.code yX12_count cX12_count 2 (some .int) ∈ lw_tbl := zme5 (List.mem_of_getElem? (i := 239) rfl)
theorem zcm163 : Cond.code yX12_event cX12_event 4 (some .int) ∈ lw_tbl := zme6 (List.mem_of_getElem? (i := 3) rfl)
theorem zcm164 : Cond.code yX12_sum cX12_sum 5 (some .long) ∈ lw_tbl := zme6 (List.mem_of_getElem? (i := 7) rfl)
theorem zcm165 : Cond.code yX12_keep cX12_keep 2 none ∈ lw_tbl := zme6 (List.mem_of_getElem? (i := 15) rfl)
theorem zcm166 : Cond.code yX12_back cX12_back 2 none ∈ lw_tbl := zme6 (List.mem_of_getElem? (i := 32) rfl)
theorem zcm167 : Cond.code yX12_put cX12_put 5 none ∈ lw_tbl := zme6 (List.mem_of_getElem? (i := 23) rfl)
theorem zcm168 : Cond.code yX12_isSame cX12_isSame 5 (some .boolean) ∈ lw_tbl := zme6 (List.mem_of_getElem? (i := 28) rfl)
theorem zcm169 : Cond.code yX12_seekRound cX12_seekRound 4 (some .int) ∈ lw_tbl := zme6 (List.mem_of_getElem? (i := 19) rfl)
theorem zcm170 : Cond.code yX12_round cX12_round 11 (some .int) ∈ lw_tbl := zme6 (List.mem_of_getElem? (i := 11) rfl)
theorem zcm171 : Cond.code yX12_shutsAt cX12_shutsAt 4 (some .boolean) ∈ lw_tbl := zme6 (List.mem_of_getElem? (i := 40) rfl)
theorem zcm172 : Cond.code yX12_tune cX12_tune 10 (some .int) ∈ lw_tbl := zme6 (List.mem_of_getElem? (i := 36) rfl)
theorem zcm173 : Cond.code yX12_ran cX12_ran 2 none ∈ lw_tbl := zme6 (List.mem_of_getElem? (i := 52) rfl)
theorem zcm174 : Cond.code yX12_vesselFill cX12_vesselFill 3 (some .int) ∈ lw_tbl := zme6 (List.mem_of_getElem? (i := 56) rfl)
theorem zcm175 : Cond.code yX12_fill0 cX12_fill0 3 (some .int) ∈ lw_tbl := zme6 (List.mem_of_getElem? (i := 48) rfl)
theorem zcm176 : Cond.code yX12_vesselTurn cX12_vesselTurn 3 (some .int) ∈ lw_tbl := zme6 (List.mem_of_getElem? (i := 64) rfl)
theorem zcm177 : Cond.code yX12_turn0 cX12_turn0 3 (some .int) ∈ lw_tbl := zme6 (List.mem_of_getElem? (i := 60) rfl)
theorem zcm178 : Cond.code yX12_count0 cX12_count0 3 (some .int) ∈ lw_tbl := zme6 (List.mem_of_getElem? (i := 68) rfl)
theorem zcm179 : Cond.code yX12_tell0 cX12_tell0 5 (some .int) ∈ lw_tbl := zme6 (List.mem_of_getElem? (i := 72) rfl)
theorem zcm180 : Cond.code yX12_act cX12_act 4 (some .int) ∈ lw_tbl := zme6 (List.mem_of_getElem? (i := 44) rfl)
theorem zcm181 : Cond.code yX12_trace cX12_trace 2 (some .int) ∈ lw_tbl := zme6 (List.mem_of_getElem? (i := 76) rfl)
theorem zcm182 : Cond.code yX12_modulo cX12_modulo 2 (some .int) ∈ lw_tbl := zme6 (List.mem_of_getElem? (i := 83) rfl)
theorem zcm183 : Cond.code yX12_sumOf cX12_sumOf 5 (some .int) ∈ lw_tbl := zme6 (List.mem_of_getElem? (i := 87) rfl)
theorem zcm184 : Cond.code yX12_forge cX12_forge 6 (some .int) ∈ lw_tbl := zme6 (List.mem_of_getElem? (i := 80) rfl)
theorem zcm185 : Cond.code yX12_status cX12_status 1 (some .int) ∈ lw_tbl := zme6 (List.mem_of_getElem? (i := 91) rfl)
theorem zcm186 : Cond.code yJ9_floorMod_7cf53 cJ9_floorMod_7cf53 3 (some .int) ∈ lw_tbl := zme4 (List.mem_of_getElem? (i := 109) rfl)
theorem zcm187 : Cond.code yJ9_min_7cf53 cJ9_min_7cf53 2 (some .int) ∈ lw_tbl := zme3 (List.mem_of_getElem? (i := 89) rfl)
theorem zcm188 : Cond.code yJ9_min_f86c9 cJ9_min_f86c9 4 (some .long) ∈ lw_tbl := zme2 (List.mem_of_getElem? (i := 174) rfl)
def zcwP (M : Nat) : Prop := Cond.code (zy M) (zc M) (zN M) (zret M) ∈ lw_tbl
theorem zcl0 : ∀ M, M < 0 → zcwP M := lt_0
theorem zcl1 : ∀ M, M < 1 → zcwP M := lt_s zcl0 zcm0
theorem zcl2 : ∀ M, M < 2 → zcwP M := lt_s zcl1 zcm1
theorem zcl3 : ∀ M, M < 3 → zcwP M := lt_s zcl2 zcm2
theorem zcl4 : ∀ M, M < 4 → zcwP M := lt_s zcl3 zcm3
theorem zcl5 : ∀ M, M < 5 → zcwP M := lt_s zcl4 zcm4
theorem zcl6 : ∀ M, M < 6 → zcwP M := lt_s zcl5 zcm5
theorem zcl7 : ∀ M, M < 7 → zcwP M := lt_s zcl6 zcm6
theorem zcl8 : ∀ M, M < 8 → zcwP M := lt_s zcl7 zcm7
theorem zcl9 : ∀ M, M < 9 → zcwP M := lt_s zcl8 zcm8
theorem zcl10 : ∀ M, M < 10 → zcwP M := lt_s zcl9 zcm9
theorem zcl11 : ∀ M, M < 11 → zcwP M := lt_s zcl10 zcm10
theorem zcl12 : ∀ M, M < 12 → zcwP M := lt_s zcl11 zcm11
theorem zcl13 : ∀ M, M < 13 → zcwP M := lt_s zcl12 zcm12
theorem zcl14 : ∀ M, M < 14 → zcwP M := lt_s zcl13 zcm13
theorem zcl15 : ∀ M, M < 15 → zcwP M := lt_s zcl14 zcm14
theorem zcl16 : ∀ M, M < 16 → zcwP M := lt_s zcl15 zcm15
theorem zcl17 : ∀ M, M < 17 → zcwP M := lt_s zcl16 zcm16
theorem zcl18 : ∀ M, M < 18 → zcwP M := lt_s zcl17 zcm17
theorem zcl19 : ∀ M, M < 19 → zcwP M := lt_s zcl18 zcm18
theorem zcl20 : ∀ M, M < 20 → zcwP M := lt_s zcl19 zcm19
theorem zcl21 : ∀ M, M < 21 → zcwP M := lt_s zcl20 zcm20
theorem zcl22 : ∀ M, M < 22 → zcwP M := lt_s zcl21 zcm21
theorem zcl23 : ∀ M, M < 23 → zcwP M := lt_s zcl22 zcm22
theorem zcl24 : ∀ M, M < 24 → zcwP M := lt_s zcl23 zcm23
theorem zcl25 : ∀ M, M < 25 → zcwP M := lt_s zcl24 zcm24
theorem zcl26 : ∀ M, M < 26 → zcwP M := lt_s zcl25 zcm25
theorem zcl27 : ∀ M, M < 27 → zcwP M := lt_s zcl26 zcm26
theorem zcl28 : ∀ M, M < 28 → zcwP M := lt_s zcl27 zcm27
theorem zcl29 : ∀ M, M < 29 → zcwP M := lt_s zcl28 zcm28
theorem zcl30 : ∀ M, M < 30 → zcwP M := lt_s zcl29 zcm29
theorem zcl31 : ∀ M, M < 31 → zcwP M := lt_s zcl30 zcm30
theorem zcl32 : ∀ M, M < 32 → zcwP M := lt_s zcl31 zcm31
theorem zcl33 : ∀ M, M < 33 → zcwP M := lt_s zcl32 zcm32
theorem zcl34 : ∀ M, M < 34 → zcwP M := lt_s zcl33 zcm33
theorem zcl35 : ∀ M, M < 35 → zcwP M := lt_s zcl34 zcm34
theorem zcl36 : ∀ M, M < 36 → zcwP M := lt_s zcl35 zcm35
theorem zcl37 : ∀ M, M < 37 → zcwP M := lt_s zcl36 zcm36
theorem zcl38 : ∀ M, M < 38 → zcwP M := lt_s zcl37 zcm37
theorem zcl39 : ∀ M, M < 39 → zcwP M := lt_s zcl38 zcm38
theorem zcl40 : ∀ M, M < 40 → zcwP M := lt_s zcl39 zcm39
theorem zcl41 : ∀ M, M < 41 → zcwP M := lt_s zcl40 zcm40
theorem zcl42 : ∀ M, M < 42 → zcwP M := lt_s zcl41 zcm41
theorem zcl43 : ∀ M, M < 43 → zcwP M := lt_s zcl42 zcm42
theorem zcl44 : ∀ M, M < 44 → zcwP M := lt_s zcl43 zcm43
theorem zcl45 : ∀ M, M < 45 → zcwP M := lt_s zcl44 zcm44
theorem zcl46 : ∀ M, M < 46 → zcwP M := lt_s zcl45 zcm45
theorem zcl47 : ∀ M, M < 47 → zcwP M := lt_s zcl46 zcm46
theorem zcl48 : ∀ M, M < 48 → zcwP M := lt_s zcl47 zcm47
theorem zcl49 : ∀ M, M < 49 → zcwP M := lt_s zcl48 zcm48
theorem zcl50 : ∀ M, M < 50 → zcwP M := lt_s zcl49 zcm49
theorem zcl51 : ∀ M, M < 51 → zcwP M := lt_s zcl50 zcm50
theorem zcl52 : ∀ M, M < 52 → zcwP M := lt_s zcl51 zcm51
theorem zcl53 : ∀ M, M < 53 → zcwP M := lt_s zcl52 zcm52
theorem zcl54 : ∀ M, M < 54 → zcwP M := lt_s zcl53 zcm53
theorem zcl55 : ∀ M, M < 55 → zcwP M := lt_s zcl54 zcm54
theorem zcl56 : ∀ M, M < 56 → zcwP M := lt_s zcl55 zcm55
theorem zcl57 : ∀ M, M < 57 → zcwP M := lt_s zcl56 zcm56
theorem zcl58 : ∀ M, M < 58 → zcwP M := lt_s zcl57 zcm57
theorem zcl59 : ∀ M, M < 59 → zcwP M := lt_s zcl58 zcm58
theorem zcl60 : ∀ M, M < 60 → zcwP M := lt_s zcl59 zcm59
theorem zcl61 : ∀ M, M < 61 → zcwP M := lt_s zcl60 zcm60
theorem zcl62 : ∀ M, M < 62 → zcwP M := lt_s zcl61 zcm61
theorem zcl63 : ∀ M, M < 63 → zcwP M := lt_s zcl62 zcm62
theorem zcl64 : ∀ M, M < 64 → zcwP M := lt_s zcl63 zcm63
theorem zcl65 : ∀ M, M < 65 → zcwP M := lt_s zcl64 zcm64
theorem zcl66 : ∀ M, M < 66 → zcwP M := lt_s zcl65 zcm65
theorem zcl67 : ∀ M, M < 67 → zcwP M := lt_s zcl66 zcm66
theorem zcl68 : ∀ M, M < 68 → zcwP M := lt_s zcl67 zcm67
theorem zcl69 : ∀ M, M < 69 → zcwP M := lt_s zcl68 zcm68
theorem zcl70 : ∀ M, M < 70 → zcwP M := lt_s zcl69 zcm69
theorem zcl71 : ∀ M, M < 71 → zcwP M := lt_s zcl70 zcm70
theorem zcl72 : ∀ M, M < 72 → zcwP M := lt_s zcl71 zcm71
theorem zcl73 : ∀ M, M < 73 → zcwP M := lt_s zcl72 zcm72
theorem zcl74 : ∀ M, M < 74 → zcwP M := lt_s zcl73 zcm73
theorem zcl75 : ∀ M, M < 75 → zcwP M := lt_s zcl74 zcm74
theorem zcl76 : ∀ M, M < 76 → zcwP M := lt_s zcl75 zcm75
theorem zcl77 : ∀ M, M < 77 → zcwP M := lt_s zcl76 zcm76
theorem zcl78 : ∀ M, M < 78 → zcwP M := lt_s zcl77 zcm77
theorem zcl79 : ∀ M, M < 79 → zcwP M := lt_s zcl78 zcm78
theorem zcl80 : ∀ M, M < 80 → zcwP M := lt_s zcl79 zcm79
theorem zcl81 : ∀ M, M < 81 → zcwP M := lt_s zcl80 zcm80
theorem zcl82 : ∀ M, M < 82 → zcwP M := lt_s zcl81 zcm81
theorem zcl83 : ∀ M, M < 83 → zcwP M := lt_s zcl82 zcm82
theorem zcl84 : ∀ M, M < 84 → zcwP M := lt_s zcl83 zcm83
theorem zcl85 : ∀ M, M < 85 → zcwP M := lt_s zcl84 zcm84
theorem zcl86 : ∀ M, M < 86 → zcwP M := lt_s zcl85 zcm85
theorem zcl87 : ∀ M, M < 87 → zcwP M := lt_s zcl86 zcm86
theorem zcl88 : ∀ M, M < 88 → zcwP M := lt_s zcl87 zcm87
theorem zcl89 : ∀ M, M < 89 → zcwP M := lt_s zcl88 zcm88
theorem zcl90 : ∀ M, M < 90 → zcwP M := lt_s zcl89 zcm89
theorem zcl91 : ∀ M, M < 91 → zcwP M := lt_s zcl90 zcm90
theorem zcl92 : ∀ M, M < 92 → zcwP M := lt_s zcl91 zcm91
theorem zcl93 : ∀ M, M < 93 → zcwP M := lt_s zcl92 zcm92
theorem zcl94 : ∀ M, M < 94 → zcwP M := lt_s zcl93 zcm93
theorem zcl95 : ∀ M, M < 95 → zcwP M := lt_s zcl94 zcm94
theorem zcl96 : ∀ M, M < 96 → zcwP M := lt_s zcl95 zcm95
theorem zcl97 : ∀ M, M < 97 → zcwP M := lt_s zcl96 zcm96
theorem zcl98 : ∀ M, M < 98 → zcwP M := lt_s zcl97 zcm97
theorem zcl99 : ∀ M, M < 99 → zcwP M := lt_s zcl98 zcm98
theorem zcl100 : ∀ M, M < 100 → zcwP M := lt_s zcl99 zcm99
theorem zcl101 : ∀ M, M < 101 → zcwP M := lt_s zcl100 zcm100
theorem zcl102 : ∀ M, M < 102 → zcwP M := lt_s zcl101 zcm101
theorem zcl103 : ∀ M, M < 103 → zcwP M := lt_s zcl102 zcm102
theorem zcl104 : ∀ M, M < 104 → zcwP M := lt_s zcl103 zcm103
theorem zcl105 : ∀ M, M < 105 → zcwP M := lt_s zcl104 zcm104
theorem zcl106 : ∀ M, M < 106 → zcwP M := lt_s zcl105 zcm105
theorem zcl107 : ∀ M, M < 107 → zcwP M := lt_s zcl106 zcm106
theorem zcl108 : ∀ M, M < 108 → zcwP M := lt_s zcl107 zcm107
theorem zcl109 : ∀ M, M < 109 → zcwP M := lt_s zcl108 zcm108
theorem zcl110 : ∀ M, M < 110 → zcwP M := lt_s zcl109 zcm109
theorem zcl111 : ∀ M, M < 111 → zcwP M := lt_s zcl110 zcm110
theorem zcl112 : ∀ M, M < 112 → zcwP M := lt_s zcl111 zcm111
theorem zcl113 : ∀ M, M < 113 → zcwP M := lt_s zcl112 zcm112
theorem zcl114 : ∀ M, M < 114 → zcwP M := lt_s zcl113 zcm113
theorem zcl115 : ∀ M, M < 115 → zcwP M := lt_s zcl114 zcm114
theorem zcl116 : ∀ M, M < 116 → zcwP M := lt_s zcl115 zcm115
theorem zcl117 : ∀ M, M < 117 → zcwP M := lt_s zcl116 zcm116
theorem zcl118 : ∀ M, M < 118 → zcwP M := lt_s zcl117 zcm117
theorem zcl119 : ∀ M, M < 119 → zcwP M := lt_s zcl118 zcm118
theorem zcl120 : ∀ M, M < 120 → zcwP M := lt_s zcl119 zcm119
theorem zcl121 : ∀ M, M < 121 → zcwP M := lt_s zcl120 zcm120
theorem zcl122 : ∀ M, M < 122 → zcwP M := lt_s zcl121 zcm121
theorem zcl123 : ∀ M, M < 123 → zcwP M := lt_s zcl122 zcm122
theorem zcl124 : ∀ M, M < 124 → zcwP M := lt_s zcl123 zcm123
theorem zcl125 : ∀ M, M < 125 → zcwP M := lt_s zcl124 zcm124
theorem zcl126 : ∀ M, M < 126 → zcwP M := lt_s zcl125 zcm125
theorem zcl127 : ∀ M, M < 127 → zcwP M := lt_s zcl126 zcm126
theorem zcl128 : ∀ M, M < 128 → zcwP M := lt_s zcl127 zcm127
theorem zcl129 : ∀ M, M < 129 → zcwP M := lt_s zcl128 zcm128
theorem zcl130 : ∀ M, M < 130 → zcwP M := lt_s zcl129 zcm129
theorem zcl131 : ∀ M, M < 131 → zcwP M := lt_s zcl130 zcm130
theorem zcl132 : ∀ M, M < 132 → zcwP M := lt_s zcl131 zcm131
theorem zcl133 : ∀ M, M < 133 → zcwP M := lt_s zcl132 zcm132
theorem zcl134 : ∀ M, M < 134 → zcwP M := lt_s zcl133 zcm133
theorem zcl135 : ∀ M, M < 135 → zcwP M := lt_s zcl134 zcm134
theorem zcl136 : ∀ M, M < 136 → zcwP M := lt_s zcl135 zcm135
theorem zcl137 : ∀ M, M < 137 → zcwP M := lt_s zcl136 zcm136
theorem zcl138 : ∀ M, M < 138 → zcwP M := lt_s zcl137 zcm137
theorem zcl139 : ∀ M, M < 139 → zcwP M := lt_s zcl138 zcm138
theorem zcl140 : ∀ M, M < 140 → zcwP M := lt_s zcl139 zcm139
theorem zcl141 : ∀ M, M < 141 → zcwP M := lt_s zcl140 zcm140
theorem zcl142 : ∀ M, M < 142 → zcwP M := lt_s zcl141 zcm141
theorem zcl143 : ∀ M, M < 143 → zcwP M := lt_s zcl142 zcm142
theorem zcl144 : ∀ M, M < 144 → zcwP M := lt_s zcl143 zcm143
theorem zcl145 : ∀ M, M < 145 → zcwP M := lt_s zcl144 zcm144
theorem zcl146 : ∀ M, M < 146 → zcwP M := lt_s zcl145 zcm145
theorem zcl147 : ∀ M, M < 147 → zcwP M := lt_s zcl146 zcm146
theorem zcl148 : ∀ M, M < 148 → zcwP M := lt_s zcl147 zcm147
theorem zcl149 : ∀ M, M < 149 → zcwP M := lt_s zcl148 zcm148
theorem zcl150 : ∀ M, M < 150 → zcwP M := lt_s zcl149 zcm149
theorem zcl151 : ∀ M, M < 151 → zcwP M := lt_s zcl150 zcm150
theorem zcl152 : ∀ M, M < 152 → zcwP M := lt_s zcl151 zcm151
theorem zcl153 : ∀ M, M < 153 → zcwP M := lt_s zcl152 zcm152
theorem zcl154 : ∀ M, M < 154 → zcwP M := lt_s zcl153 zcm153
theorem zcl155 : ∀ M, M < 155 → zcwP M := lt_s zcl154 zcm154
theorem zcl156 : ∀ M, M < 156 → zcwP M := lt_s zcl155 zcm155
theorem zcl157 : ∀ M, M < 157 → zcwP M := lt_s zcl156 zcm156
theorem zcl158 : ∀ M, M < 158 → zcwP M := lt_s zcl157 zcm157
theorem zcl159 : ∀ M, M < 159 → zcwP M := lt_s zcl158 zcm158
theorem zcl160 : ∀ M, M < 160 → zcwP M := lt_s zcl159 zcm159
theorem zcl161 : ∀ M, M < 161 → zcwP M := lt_s zcl160 zcm160
theorem zcl162 : ∀ M, M < 162 → zcwP M := lt_s zcl161 zcm161
theorem zcl163 : ∀ M, M < 163 → zcwP M := lt_s zcl162 zcm162
theorem zcl164 : ∀ M, M < 164 → zcwP M := lt_s zcl163 zcm163
theorem zcl165 : ∀ M, M < 165 → zcwP M := lt_s zcl164 zcm164
theorem zcl166 : ∀ M, M < 166 → zcwP M := lt_s zcl165 zcm165
theorem zcl167 : ∀ M, M < 167 → zcwP M := lt_s zcl166 zcm166
theorem zcl168 : ∀ M, M < 168 → zcwP M := lt_s zcl167 zcm167
theorem zcl169 : ∀ M, M < 169 → zcwP M := lt_s zcl168 zcm168
theorem zcl170 : ∀ M, M < 170 → zcwP M := lt_s zcl169 zcm169
theorem zcl171 : ∀ M, M < 171 → zcwP M := lt_s zcl170 zcm170
theorem zcl172 : ∀ M, M < 172 → zcwP M := lt_s zcl171 zcm171
theorem zcl173 : ∀ M, M < 173 → zcwP M := lt_s zcl172 zcm172
theorem zcl174 : ∀ M, M < 174 → zcwP M := lt_s zcl173 zcm173
theorem zcl175 : ∀ M, M < 175 → zcwP M := lt_s zcl174 zcm174
theorem zcl176 : ∀ M, M < 176 → zcwP M := lt_s zcl175 zcm175
theorem zcl177 : ∀ M, M < 177 → zcwP M := lt_s zcl176 zcm176
theorem zcl178 : ∀ M, M < 178 → zcwP M := lt_s zcl177 zcm177
theorem zcl179 : ∀ M, M < 179 → zcwP M := lt_s zcl178 zcm178
theorem zcl180 : ∀ M, M < 180 → zcwP M := lt_s zcl179 zcm179
theorem zcl181 : ∀ M, M < 181 → zcwP M := lt_s zcl180 zcm180
theorem zcl182 : ∀ M, M < 182 → zcwP M := lt_s zcl181 zcm181
theorem zcl183 : ∀ M, M < 183 → zcwP M := lt_s zcl182 zcm182
theorem zcl184 : ∀ M, M < 184 → zcwP M := lt_s zcl183 zcm183
theorem zcl185 : ∀ M, M < 185 → zcwP M := lt_s zcl184 zcm184
theorem zcl186 : ∀ M, M < 186 → zcwP M := lt_s zcl185 zcm185
theorem zcl187 : ∀ M, M < 187 → zcwP M := lt_s zcl186 zcm186
theorem zcl188 : ∀ M, M < 188 → zcwP M := lt_s zcl187 zcm187
theorem zcl189 : ∀ M, M < 189 → zcwP M := lt_s zcl188 zcm188
end
section
/-! ===== the interpreter: a pure picture of the machine over lists of cells; refs are places in the list ===== -/
def zsh (base : Nat) (fa : UInt32 → Nat) : Value → Value
  | .ref k => .ref (base + k)
  | .float x => .ref (fa x)
  | .int v => .int v
  | .long v => .long v
  | .double v => .double v
  | .null => .null
  | .retAddr p => .retAddr p
theorem zsh_cat (base : Nat) (fa : UInt32 → Nat) (v : Value) : (zsh base fa v).category = v.category := by cases v <;> rfl
def zca (base : Nat) (x : (Nat → Int32) ⊕ (Nat → Int64) ⊕ (Nat → UInt32) ⊕ (Nat → UInt64) ⊕ (Nat → Option Nat)) : (Nat → Int32) ⊕ (Nat → Int64) ⊕ (Nat → UInt32) ⊕ (Nat → UInt64) ⊕ (Nat → Option Nat) := match x with
  | .inl f => .inl f
  | .inr (.inl f) => .inr (.inl f)
  | .inr (.inr (.inl f)) => .inr (.inr (.inl f))
  | .inr (.inr (.inr (.inl f))) => .inr (.inr (.inr (.inl f)))
  | .inr (.inr (.inr (.inr f))) => .inr (.inr (.inr (.inr (fun i => (f i).map (fun k => base + k)))))
def zce (base : Nat) (fa : UInt32 → Nat) (aC : Nat → ClassId) (e : va_E) : va_E := match e with
  | .inl a => .inl (aC a.1, a.2.1, zca base a.2.2)
  | .inr o => .inr (o.1, o.2.map (zsh base fa))
def zwl (base : Nat) (fa : UInt32 → Nat) (aC : Nat → ClassId) (h : List va_E) : va_W := h.mapIdx (fun k e => (base + k, zce base fa aC e))
theorem zwl_get {base : Nat} {fa : UInt32 → Nat} {aC : Nat → ClassId} (h : List va_E) (k : Nat) : (zwl base fa aC h)[k]? = (h[k]?).map (fun e => (base + k, zce base fa aC e)) := by
  simp [zwl, List.getElem?_mapIdx]
theorem zwl_at {base : Nat} {fa : UInt32 → Nat} {aC : Nat → ClassId} {h : List va_E} {k : Nat} {e : va_E} (hk : h[k]? = some e) : (zwl base fa aC h)[k]? = some (base + k, zce base fa aC e) := by
  rw [zwl_get, hk]; rfl
theorem zwl_set {base : Nat} {fa : UInt32 → Nat} {aC : Nat → ClassId} (h : List va_E) (k : Nat) (e : va_E) : (zwl base fa aC h).set k (base + k, zce base fa aC e) = zwl base fa aC (h.set k e) := by
  apply List.ext_getElem?
  intro j
  rw [zwl_get, List.getElem?_set, List.getElem?_set]
  by_cases hj : k = j
  · subst hj
    simp only [if_true]
    by_cases hl : k < h.length
    · rw [if_pos (by simpa [zwl] using hl), if_pos hl]; rfl
    · rw [if_neg (by simpa [zwl] using hl), if_neg hl]; rfl
  · rw [if_neg hj, if_neg hj, zwl_get]
theorem zwl_app {base : Nat} {fa : UInt32 → Nat} {aC : Nat → ClassId} (h : List va_E) (e : va_E) : zwl base fa aC (h ++ [e]) = zwl base fa aC h ++ [(base + h.length, zce base fa aC e)] := by
  simp [zwl, List.mapIdx_append]
theorem zwl_D {base : Nat} {fa : UInt32 → Nat} {aC : Nat → ClassId} (h : List va_E) : va_D (fun q => base ≤ q) (zwl base fa aC h) := by
  refine ⟨fun i j p q hi hj he => ?_, fun k q hk => ?_⟩
  · rw [zwl_get] at hi hj
    obtain ⟨a, -, ha⟩ := Option.map_eq_some_iff.mp hi
    obtain ⟨b, -, hb⟩ := Option.map_eq_some_iff.mp hj
    rw [← ha, ← hb] at he
    simp only at he
    omega
  · rw [zwl_get] at hk
    obtain ⟨a, -, ha⟩ := Option.map_eq_some_iff.mp hk
    rw [← ha]
    exact Nat.le_add_right _ _
/-- the locals -/
def zld : List (Nat × Value) → Nat → Option Value
  | [], _ => none
  | q :: r, i => if q.1 = i then some q.2 else zld r i
theorem zld_mem : ∀ {ls : List (Nat × Value)} {i : Nat} {v : Value}, zld ls i = some v → (i, v) ∈ ls
  | [], _, _, h => by simp [zld] at h
  | q :: r, i, v, h => by
    unfold zld at h
    by_cases hq : q.1 = i
    · rw [if_pos hq] at h
      cases h
      rw [← hq]
      exact List.mem_cons_self
    · rw [if_neg hq] at h
      exact List.mem_cons_of_mem _ (zld_mem h)
def zs1 (ls : List (Nat × Value)) (i : Nat) (v : Value) : List (Nat × Value) := (i, v) :: ls.filter (fun q => !(q.1 == i) && !(q.1 + 1 == i && q.2.category == 2))
def zs2 (ls : List (Nat × Value)) (i : Nat) (v : Value) : List (Nat × Value) := (i, v) :: ls.filter (fun q => !(q.1 == i) && (!(q.1 == i + 1) && !(q.1 + 1 == i && q.2.category == 2)))
def zlm (base : Nat) (fa : UInt32 → Nat) (ls : List (Nat × Value)) : List (Nat × Value) := ls.map (fun q => (q.1, zsh base fa q.2))
theorem zlm_s1 (base : Nat) (fa : UInt32 → Nat) (ls : List (Nat × Value)) (i : Nat) (v : Value) : (i, zsh base fa v) :: (zlm base fa ls).filter (fun q => !(q.1 == i) && !(q.1 + 1 == i && q.2.category == 2)) = zlm base fa (zs1 ls i v) := by
  simp only [zlm, zs1, List.map_cons, List.filter_map]
  congr 2
  apply List.filter_congr
  intro q _
  simp [zsh_cat]
theorem zlm_s2 (base : Nat) (fa : UInt32 → Nat) (ls : List (Nat × Value)) (i : Nat) (v : Value) : (i, zsh base fa v) :: (zlm base fa ls).filter (fun q => !(q.1 == i) && (!(q.1 == i + 1) && !(q.1 + 1 == i && q.2.category == 2))) = zlm base fa (zs2 ls i v) := by
  simp only [zlm, zs2, List.map_cons, List.filter_map]
  congr 2
  apply List.filter_congr
  intro q _
  simp [zsh_cat]
theorem zlm_at {base : Nat} {fa : UInt32 → Nat} {ls : List (Nat × Value)} {A : Array Slot} {n i : Nat} {v : Value} (h : lv_has A n (zlm base fa ls)) (hv : zld ls i = some v) : A[i]? = some (.val (zsh base fa v)) :=
  h.2.2 (i, zsh base fa v) (List.mem_map.mpr ⟨(i, v), zld_mem hv, rfl⟩)
def zargs : Nat → List Value → List (Nat × Value)
  | _, [] => []
  | i, v :: vs => (i, v) :: zargs (if v.category = 2 then i + 2 else i + 1) vs
theorem zargs_m (base : Nat) (fa : UInt32 → Nat) : ∀ (vs : List Value) (i : Nat), lv_args i (vs.map (zsh base fa)) = zlm base fa (zargs i vs)
  | [], _ => rfl
  | v :: vs, i => by
    show (i, zsh base fa v) :: lv_args _ (vs.map (zsh base fa)) = (i, zsh base fa v) :: zlm base fa (zargs _ vs)
    rw [zargs_m base fa vs, zsh_cat]
/-- the length of an instruction; 0: a switch -/
def zlen (i : Instr) : Nat := match i with
  | .tableswitch _ _ _ _ => 0
  | .lookupswitch _ _ => 0
  | .bipush _ => 2
  | .iload _ => 2
  | .lload _ => 2
  | .aload _ => 2
  | .istore _ => 2
  | .lstore _ => 2
  | .astore _ => 2
  | .ldc _ => 2
  | .newarray _ => 2
  | .sipush _ => 3
  | .iinc _ _ => 3
  | .ldc2_w _ => 3
  | .getfield _ => 3
  | .putfield _ => 3
  | .getstatic _ => 3
  | .new _ => 3
  | .anewarray _ => 3
  | .invokevirtual _ => 3
  | .invokespecial _ => 3
  | .invokestatic _ => 3
  | .goto _ => 3
  | .ifCond _ _ => 3
  | .if_icmp _ _ => 3
  | .ifnonnull _ => 3
  | _ => 1
def zf (M pc : Nat) : Option Instr := match decode (zc M) pc with
  | .ok (i, n) => if zlen i = 0 ∨ n = zlen i then some i else none
  | .error _ => none
theorem zf_spec {M pc : Nat} {i : Instr} (h : zf M pc = some i) : ∃ n, decode (zc M) pc = .ok (i, n) ∧ (zlen i = 0 ∨ n = zlen i) := by
  unfold zf at h
  cases hd : decode (zc M) pc with
  | error e => rw [hd] at h; simp at h
  | ok q =>
    obtain ⟨j, n⟩ := q
    rw [hd] at h
    simp only at h
    by_cases hc : zlen j = 0 ∨ n = zlen j
    · rw [if_pos hc] at h
      cases h
      exact ⟨n, rfl, hc⟩
    · rw [if_neg hc] at h
      cases h
def ztg (pc : Nat) (off : Int) : Option Nat := if 0 ≤ (pc : Int) + off then some ((pc : Int) + off).toNat else none
theorem ztg_spec {pc t : Nat} {off : Int} (h : ztg pc off = some t) : (pc : Int) + off = (t : Int) := by
  unfold ztg at h
  split at h
  · cases h; omega
  · cases h
theorem ztg_of {pc t : Nat} {off : Int} (h : (pc : Int) + off = (t : Int)) : ztg pc off = some t := by
  unfold ztg
  rw [if_pos (by omega)]
  congr 1
  omega
abbrev zC : Type := Nat × List (Nat × Value) × List Value × List va_E × Nat × Nat
abbrev zK : Type := zC ⊕ ((Nat × List Value × List Value) ⊕ Option Value)
def zgo (pc : Nat) (ls : List (Nat × Value)) (st : List Value) (h : List va_E) (uc us : Nat) : Option zK := some (.inl (pc, ls, st, h, uc, us))
def zju (pc : Nat) (off : Int) (ls : List (Nat × Value)) (st : List Value) (h : List va_E) (uc us : Nat) : Option zK := match ztg pc off with
  | some t => zgo t ls st h uc us
  | none => none
def zbr (c : Prop) [Decidable c] (pc : Nat) (off : Int) (ls : List (Nat × Value)) (st : List Value) (h : List va_E) (uc us : Nat) : Option zK := match ztg pc off with
  | some t => zgo (if c then t else pc + 3) ls st h uc us
  | none => none
def zfd (o idx ci : Nat) : Option Nat := (zfp.find? (fun e => e.1 == o && (e.2.1 == idx && e.2.2.1 == ci))).map (fun e => e.2.2.2.1)
def zcall (M idx ci : Nat) : Option zCe := zcp.find? (fun e => e.1 == M && (e.2.1 == idx && e.2.2.1 == ci))
def zna (M idx : Nat) : Option Nat := (zcp.find? (fun e => e.1 == M && e.2.1 == idx)).map (fun e => e.2.2.2.2.2.1)
def zcl (o idx : Nat) : Option Nat := (zcn.find? (fun e => e.1 == o && e.2.1 == idx)).map (fun e => e.2.2.1)
def zki (o idx : Nat) : Option Int32 := (zkI.find? (fun e => e.1 == o && e.2.1 == idx)).map (fun e => e.2.2.1)
def zkl (o idx : Nat) : Option Int64 := (zkL.find? (fun e => e.1 == o && e.2.1 == idx)).map (fun e => e.2.2.1)
def ztyl : List (Nat → FieldType) := [tyX0, tyX1, tyX2, tyX3, tyX4, tyX5, tyX6, tyX7, tyX8, tyX9, tyX10, tyX11, tyX12]
def zty (ci j : Nat) : FieldType := (ztyl.getD ci (fun _ => .int)) j
def zfin (ci j : Nat) : Bool := match vwCl[ci]? with
  | some q => (q.2.1 j).2.2.2
  | none => false
def zdc (ci j : Nat) : String := match vwCl[ci]? with
  | some q => (q.2.1 j).1
  | none => ""
def znf (ci : Nat) : Nat := match vwCl[ci]? with
  | some q => q.2.2
  | none => 0
def zdf (ci : Nat) : List Value := (List.range (znf ci)).map (fun j => defaultValue (zty ci j))
def zfit (ty : FieldType) (v : Value) : Bool := match ty, v with
  | .int, .int _ => true
  | .long, .long _ => true
  | .boolean, .int x => x == 0 || x == 1
  | .object _, .ref _ => true
  | .array _, .ref _ => true
  | _, _ => false
theorem zfit_ok {base : Nat} {fa : UInt32 → Nat} {ty : FieldType} {v : Value} (h : zfit ty v = true) : narrow ty (zsh base fa v) = zsh base fa v ∧ fits ty (zsh base fa v) = true := by
  cases ty <;> cases v <;> simp only [zfit, Bool.false_eq_true] at h <;> try exact ⟨rfl, rfl⟩
  rename_i x
  simp only [Bool.or_eq_true, beq_iff_eq] at h
  rcases h with rfl | rfl
  · exact ⟨show narrow .boolean (.int 0) = .int 0 by decide, show fits .boolean (.int 0) = true by decide⟩
  · exact ⟨show narrow .boolean (.int 1) = .int 1 by decide, show fits .boolean (.int 1) = true by decide⟩
def zat (t : ArrayType) : Option (Nat × ((Nat → Int32) ⊕ (Nat → Int64) ⊕ (Nat → UInt32) ⊕ (Nat → UInt64) ⊕ (Nat → Option Nat))) := match t with
  | .int => some (0, .inl (fun _ => 0))
  | .long => some (1, .inr (.inl (fun _ => 0)))
  | .boolean => some (2, .inl (fun _ => 0))
  | _ => none
/-- one instruction: on to a place, a call, or the end -/
def zo (ro : UInt32 → Nat × (Nat → Int32)) (M pc : Nat) (ls : List (Nat × Value)) (st : List Value) (h : List va_E) (uc us : Nat) (i : Instr) : Option zK := match i with
  | .iconst n => zgo (pc + 1) ls (.int (Int32.ofInt n) :: st) h uc us
  | .bipush n => zgo (pc + 2) ls (.int (Int8.ofInt n).toInt32 :: st) h uc us
  | .sipush n => zgo (pc + 3) ls (.int (Int16.ofInt n).toInt32 :: st) h uc us
  | .lconst n => zgo (pc + 1) ls (.long (Int64.ofNat (n : Nat)) :: st) h uc us
  | .iload_n k => match zld ls (k : Nat) with
    | some (.int x) => zgo (pc + 1) ls (.int x :: st) h uc us
    | _ => none
  | .iload k => match zld ls k with
    | some (.int x) => zgo (pc + 2) ls (.int x :: st) h uc us
    | _ => none
  | .lload_n k => match zld ls (k : Nat) with
    | some (.long x) => zgo (pc + 1) ls (.long x :: st) h uc us
    | _ => none
  | .lload k => match zld ls k with
    | some (.long x) => zgo (pc + 2) ls (.long x :: st) h uc us
    | _ => none
  | .aload_n k => match zld ls (k : Nat) with
    | some (.ref x) => zgo (pc + 1) ls (.ref x :: st) h uc us
    | some (.float x) => zgo (pc + 1) ls (.float x :: st) h uc us
    | _ => none
  | .aload k => match zld ls k with
    | some (.ref x) => zgo (pc + 2) ls (.ref x :: st) h uc us
    | _ => none
  | .istore_n k => match st with
    | .int x :: st => if (k : Nat) < zN M then zgo (pc + 1) (zs1 ls (k : Nat) (.int x)) st h uc us else none
    | _ => none
  | .istore k => match st with
    | .int x :: st => if k < zN M then zgo (pc + 2) (zs1 ls k (.int x)) st h uc us else none
    | _ => none
  | .lstore_n k => match st with
    | .long x :: st => if (k : Nat) + 1 < zN M then zgo (pc + 1) (zs2 ls (k : Nat) (.long x)) st h uc us else none
    | _ => none
  | .lstore k => match st with
    | .long x :: st => if k + 1 < zN M then zgo (pc + 2) (zs2 ls k (.long x)) st h uc us else none
    | _ => none
  | .astore_n k => match st with
    | .ref x :: st => if (k : Nat) < zN M then zgo (pc + 1) (zs1 ls (k : Nat) (.ref x)) st h uc us else none
    | _ => none
  | .astore k => match st with
    | .ref x :: st => if k < zN M then zgo (pc + 2) (zs1 ls k (.ref x)) st h uc us else none
    | _ => none
  | .iinc k n => match zld ls k with
    | some (.int x) => if k < zN M then zgo (pc + 3) (zs1 ls k (.int (x + Int32.ofInt n))) st h uc us else none
    | _ => none
  | .iadd => match st with
    | .int y :: .int x :: st => zgo (pc + 1) ls (.int (x + y) :: st) h uc us
    | _ => none
  | .isub => match st with
    | .int y :: .int x :: st => zgo (pc + 1) ls (.int (x - y) :: st) h uc us
    | _ => none
  | .imul => match st with
    | .int y :: .int x :: st => zgo (pc + 1) ls (.int (x * y) :: st) h uc us
    | _ => none
  | .iand => match st with
    | .int y :: .int x :: st => zgo (pc + 1) ls (.int (x &&& y) :: st) h uc us
    | _ => none
  | .ior => match st with
    | .int y :: .int x :: st => zgo (pc + 1) ls (.int (x ||| y) :: st) h uc us
    | _ => none
  | .ixor => match st with
    | .int y :: .int x :: st => zgo (pc + 1) ls (.int (x ^^^ y) :: st) h uc us
    | _ => none
  | .idiv => match st with
    | .int y :: .int x :: st => if y = 0 then none else zgo (pc + 1) ls (.int (x / y) :: st) h uc us
    | _ => none
  | .irem => match st with
    | .int y :: .int x :: st => if y = 0 then none else zgo (pc + 1) ls (.int (x - x / y * y) :: st) h uc us
    | _ => none
  | .ineg => match st with
    | .int x :: st => zgo (pc + 1) ls (.int (-x) :: st) h uc us
    | _ => none
  | .ishl => match st with
    | .int y :: .int x :: st => zgo (pc + 1) ls (.int (x <<< (y &&& 31)) :: st) h uc us
    | _ => none
  | .ishr => match st with
    | .int y :: .int x :: st => zgo (pc + 1) ls (.int (x >>> (y &&& 31)) :: st) h uc us
    | _ => none
  | .ladd => match st with
    | .long y :: .long x :: st => zgo (pc + 1) ls (.long (x + y) :: st) h uc us
    | _ => none
  | .lsub => match st with
    | .long y :: .long x :: st => zgo (pc + 1) ls (.long (x - y) :: st) h uc us
    | _ => none
  | .lmul => match st with
    | .long y :: .long x :: st => zgo (pc + 1) ls (.long (x * y) :: st) h uc us
    | _ => none
  | .lor => match st with
    | .long y :: .long x :: st => zgo (pc + 1) ls (.long (x ||| y) :: st) h uc us
    | _ => none
  | .ldiv => match st with
    | .long y :: .long x :: st => if y = 0 then none else zgo (pc + 1) ls (.long (x / y) :: st) h uc us
    | _ => none
  | .lrem => match st with
    | .long y :: .long x :: st => if y = 0 then none else zgo (pc + 1) ls (.long (x - x / y * y) :: st) h uc us
    | _ => none
  | .lneg => match st with
    | .long x :: st => zgo (pc + 1) ls (.long (-x) :: st) h uc us
    | _ => none
  | .lshl => match st with
    | .int y :: .long x :: st => zgo (pc + 1) ls (.long (x <<< (y.toInt64 &&& 63)) :: st) h uc us
    | _ => none
  | .lcmp => match st with
    | .long y :: .long x :: st => zgo (pc + 1) ls (.int (lg_cmp x y) :: st) h uc us
    | _ => none
  | .i2l => match st with
    | .int x :: st => zgo (pc + 1) ls (.long x.toInt64 :: st) h uc us
    | _ => none
  | .l2i => match st with
    | .long x :: st => zgo (pc + 1) ls (.int x.toInt32 :: st) h uc us
    | _ => none
  | .dup => match st with
    | v :: st => if v.category = 1 then zgo (pc + 1) ls (v :: v :: st) h uc us else none
    | _ => none
  | .pop => match st with
    | v :: st => if v.category = 1 then zgo (pc + 1) ls st h uc us else none
    | _ => none
  | .dup2 => match st with
    | v :: w :: st => if v.category = 1 ∧ w.category = 1 then zgo (pc + 1) ls (v :: w :: v :: w :: st) h uc us else none
    | _ => none
  | .ifCond c off => match st with
    | .int x :: st => match c with
      | .eq => zbr (x = 0) pc off ls st h uc us
      | .ne => zbr (¬ x = 0) pc off ls st h uc us
      | .lt => zbr (x < 0) pc off ls st h uc us
      | .ge => zbr (0 ≤ x) pc off ls st h uc us
      | .gt => zbr (0 < x) pc off ls st h uc us
      | .le => zbr (x ≤ 0) pc off ls st h uc us
    | _ => none
  | .if_icmp c off => match st with
    | .int y :: .int x :: st => match c with
      | .eq => zbr (x = y) pc off ls st h uc us
      | .ne => zbr (¬ x = y) pc off ls st h uc us
      | .lt => zbr (x < y) pc off ls st h uc us
      | .ge => zbr (y ≤ x) pc off ls st h uc us
      | .gt => zbr (y < x) pc off ls st h uc us
      | .le => zbr (x ≤ y) pc off ls st h uc us
    | _ => none
  | .ifnonnull off => match st with
    | .ref _ :: st => zju pc off ls st h uc us
    | _ => none
  | .goto off => zju pc off ls st h uc us
  | .tableswitch d lo hi offs => match st with
    | .int x :: st => if x.toInt < lo ∨ hi < x.toInt then zju pc d ls st h uc us else match offs[(x.toInt - lo).toNat]? with
      | some off => zju pc off ls st h uc us
      | none => none
    | _ => none
  | .lookupswitch d ps => match st with
    | .int x :: st => if (ps.toList.zip (ps.toList.drop 1)).all (fun (a, next) => a.1 < next.1) = true then zju pc (Op.lookupswitch.offset ps.toList d x.toInt) ls st h uc us else none
    | _ => none
  | .ldc idx => match zki (zoc M) idx with
    | some v => zgo (pc + 2) ls (.int v :: st) h uc us
    | none => none
  | .ldc2_w idx => match zkl (zoc M) idx with
    | some v => zgo (pc + 3) ls (.long v :: st) h uc us
    | none => none
  | .getfield idx => match st with
    | .ref k :: st => match h[k]? with
      | some (.inr (ci, fs)) => match zfd (zoc M) idx ci with
        | some j => match fs[j]? with
          | some v => zgo (pc + 3) ls (v :: st) h uc us
          | none => none
        | none => none
      | _ => none
    | _ => none
  | .putfield idx => match st with
    | v :: .ref k :: st => match h[k]? with
      | some (.inr (ci, fs)) => match zfd (zoc M) idx ci with
        | some j => if zfit (zty ci j) v = true ∧ j < fs.length ∧ (zfin ci j = true → zini M = true ∧ zdc ci j = (zy M).cls) then zgo (pc + 3) ls st (h.set k (.inr (ci, fs.set j v))) uc us else none
        | none => none
      | _ => none
    | _ => none
  | .new idx => match zcl (zoc M) idx with
    | some ci => if uc + 1 ≤ (zrm M).cells ∧ us + znf ci ≤ (zrm M).slots then zgo (pc + 3) ls (.ref h.length :: st) (h ++ [.inr (ci, zdf ci)]) (uc + 1) (us + znf ci) else none
    | none => none
  | .newarray t => match st with
    | .int n :: st => match zat t with
      | some (tc, f) => if ¬ n < 0 ∧ n.toNatClampNeg ≤ 1000000 ∧ uc + 1 ≤ (zrm M).cells ∧ us + n.toNatClampNeg ≤ (zrm M).slots then zgo (pc + 2) ls (.ref h.length :: st) (h ++ [.inl (tc, n.toNatClampNeg, f)]) (uc + 1) (us + n.toNatClampNeg) else none
      | none => none
    | _ => none
  | .anewarray idx => match st with
    | .int n :: st => if zcl (zoc M) idx = some 8 ∧ ¬ n < 0 ∧ n.toNatClampNeg ≤ 1000000 ∧ uc + 1 ≤ (zrm M).cells ∧ us + n.toNatClampNeg ≤ (zrm M).slots then zgo (pc + 3) ls (.ref h.length :: st) (h ++ [.inl (3, n.toNatClampNeg, .inr (.inr (.inr (.inr (fun _ => none)))))]) (uc + 1) (us + n.toNatClampNeg) else none
    | _ => none
  | .iaload => match st with
    | .int i :: .ref k :: st => match h[k]? with
      | some (.inl (0, n, .inl f)) => if i < 0 ∨ n ≤ i.toNatClampNeg then none else zgo (pc + 1) ls (.int (f i.toNatClampNeg) :: st) h uc us
      | _ => none
    | .int i :: .float x :: st => if i < 0 ∨ (ro x).1 ≤ i.toNatClampNeg then none else zgo (pc + 1) ls (.int ((ro x).2 i.toNatClampNeg) :: st) h uc us
    | _ => none
  | .baload => match st with
    | .int i :: .ref k :: st => match h[k]? with
      | some (.inl (2, n, .inl f)) => if i < 0 ∨ n ≤ i.toNatClampNeg then none else zgo (pc + 1) ls (.int (f i.toNatClampNeg) :: st) h uc us
      | _ => none
    | _ => none
  | .laload => match st with
    | .int i :: .ref k :: st => match h[k]? with
      | some (.inl (1, n, .inr (.inl f))) => if i < 0 ∨ n ≤ i.toNatClampNeg then none else zgo (pc + 1) ls (.long (f i.toNatClampNeg) :: st) h uc us
      | _ => none
    | _ => none
  | .aaload => match st with
    | .int i :: .ref k :: st => match h[k]? with
      | some (.inl (3, n, .inr (.inr (.inr (.inr f))))) => if i < 0 ∨ n ≤ i.toNatClampNeg then none else match f i.toNatClampNeg with
        | some a => zgo (pc + 1) ls (.ref a :: st) h uc us
        | none => none
      | _ => none
    | _ => none
  | .iastore => match st with
    | .int x :: .int i :: .ref k :: st => match h[k]? with
      | some (.inl (0, n, .inl f)) => if i < 0 ∨ n ≤ i.toNatClampNeg then none else zgo (pc + 1) ls st (h.set k (.inl (0, n, .inl (upd f i.toNatClampNeg x)))) uc us
      | _ => none
    | _ => none
  | .bastore => match st with
    | .int x :: .int i :: .ref k :: st => match h[k]? with
      | some (.inl (2, n, .inl f)) => if i < 0 ∨ n ≤ i.toNatClampNeg then none else zgo (pc + 1) ls st (h.set k (.inl (2, n, .inl (upd f i.toNatClampNeg (vp_nar .boolean x))))) uc us
      | _ => none
    | _ => none
  | .lastore => match st with
    | .long x :: .int i :: .ref k :: st => match h[k]? with
      | some (.inl (1, n, .inr (.inl f))) => if i < 0 ∨ n ≤ i.toNatClampNeg then none else zgo (pc + 1) ls st (h.set k (.inl (1, n, .inr (.inl (vp_updL f i.toNatClampNeg x))))) uc us
      | _ => none
    | _ => none
  | .aastore => match st with
    | .ref v :: .int i :: .ref k :: st => match h[k]?, h[v]? with
      | some (.inl (3, n, .inr (.inr (.inr (.inr f))))), some (.inr (ci, _)) => if i < 0 ∨ n ≤ i.toNatClampNeg then none else if ci = 8 ∨ ci = 6 ∨ ci = 7 ∨ ci = 2 ∨ ci = 1 then zgo (pc + 1) ls st (h.set k (.inl (3, n, .inr (.inr (.inr (.inr (va_up f i.toNatClampNeg (some v)))))))) uc us else none
      | _, _ => none
    | _ => none
  | .arraylength => match st with
    | .float x :: st => zgo (pc + 1) ls (.int (Int32.ofNat (ro x).1) :: st) h uc us
    | _ => none
  | .getstatic idx => if zoc M = 11 ∧ idx = 333 then zgo (pc + 3) ls (.float 1 :: st) h uc us else none
  | .ireturn => match st with
    | [.int v] => match zret M with
      | some .int => if uc = (zrm M).cells ∧ us = (zrm M).slots then some (.inr (.inr (some (.int v)))) else none
      | some .boolean => if uc = (zrm M).cells ∧ us = (zrm M).slots ∧ (v = 0 ∨ v = 1) then some (.inr (.inr (some (.int v)))) else none
      | _ => none
    | _ => none
  | .lreturn => match st with
    | [.long v] => match zret M with
      | some .long => if uc = (zrm M).cells ∧ us = (zrm M).slots then some (.inr (.inr (some (.long v)))) else none
      | _ => none
    | _ => none
  | .return_ => match st with
    | [] => match zret M with
      | none => if uc = (zrm M).cells ∧ us = (zrm M).slots then some (.inr (.inr none)) else none
      | _ => none
    | _ => none
  | .invokevirtual idx => match zna M idx with
    | some n => match st.drop n with
      | .ref k :: rest => match h[k]? with
        | some (.inr (ci, _)) => match zcall M idx ci with
          | some (_, _, _, kd, M1, n1, _, _) => if kd ≤ 1 ∧ n1 = n ∧ (rest.map (fun v => v.category)).sum ≤ 8 ∧ uc + (zrm M1).cells ≤ (zrm M).cells ∧ us + (zrm M1).slots ≤ (zrm M).slots then some (.inr (.inl (M1, .ref k :: (st.take n).reverse, rest))) else none
          | none => none
        | _ => none
      | _ => none
    | none => none
  | .invokestatic idx => match zcall M idx 99 with
    | some (_, _, _, kd, M1, n, _, _) =>
      if kd = 2 ∨ kd = 3 then (if n ≤ st.length ∧ ((st.drop n).map (fun v => v.category)).sum ≤ 8 ∧ uc + (zrm M1).cells ≤ (zrm M).cells ∧ us + (zrm M1).slots ≤ (zrm M).slots then some (.inr (.inl (M1, (st.take n).reverse, st.drop n))) else none)
      else if kd = 8 then (match st with
        | .int n :: .int dp :: .ref a1 :: .int sp :: .ref a0 :: st => match h[a0]?, h[a1]? with
          | some (.inl (0, n0, .inl f)), some (.inl (0, n1, .inl g)) => if ¬ sp < 0 ∧ ¬ dp < 0 ∧ ¬ n < 0 ∧ sp.toNatClampNeg + n.toNatClampNeg ≤ n0 ∧ dp.toNatClampNeg + n.toNatClampNeg ≤ n1 ∧ (st.map (fun v => v.category)).sum ≤ 8 then zgo (pc + 3) ls st (h.set a1 (.inl (0, n1, .inl (va_cpy f g sp.toNatClampNeg dp.toNatClampNeg n.toNatClampNeg)))) uc us else none
          | some (.inl (1, n0, .inr (.inl f))), some (.inl (1, n1, .inr (.inl g))) => if ¬ sp < 0 ∧ ¬ dp < 0 ∧ ¬ n < 0 ∧ sp.toNatClampNeg + n.toNatClampNeg ≤ n0 ∧ dp.toNatClampNeg + n.toNatClampNeg ≤ n1 ∧ (st.map (fun v => v.category)).sum ≤ 8 then zgo (pc + 3) ls st (h.set a1 (.inl (1, n1, .inr (.inl (va_cpy f g sp.toNatClampNeg dp.toNatClampNeg n.toNatClampNeg))))) uc us else none
          | _, _ => none
        | _ => none)
      else none
    | none => none
  | .invokespecial idx => match zcall M idx 99 with
    | some (_, _, _, kd, M1, n, _, _) =>
      if kd = 7 then (match st with
        | .ref k :: st => if (st.map (fun v => v.category)).sum ≤ 8 then zgo (pc + 3) ls st h uc us else none
        | _ => none)
      else if kd = 4 ∨ kd = 5 then (match st.drop n with
        | .ref k :: rest => if (rest.map (fun v => v.category)).sum ≤ 8 ∧ uc + (zrm M1).cells ≤ (zrm M).cells ∧ us + (zrm M1).slots ≤ (zrm M).slots then some (.inr (.inl (M1, .ref k :: (st.take n).reverse, rest))) else none
        | _ => none)
      else none
    | none => match zcall M idx 98 with
      | some (_, _, _, kd, M1, n, _, _) => if kd = 6 then (match st.drop n with
        | .ref k :: rest => match h[k]? with
          | some (.inr (ci, _)) => if ci < 13 ∧ (rest.map (fun v => v.category)).sum ≤ 8 ∧ uc + (zrm M1).cells ≤ (zrm M).cells ∧ us + (zrm M1).slots ≤ (zrm M).slots then some (.inr (.inl (M1, .ref k :: (st.take n).reverse, rest))) else none
          | _ => none
        | _ => none) else none
      | none => none
  | _ => none
/-- a run of n steps at most -/
def zr (ro : UInt32 → Nat × (Nat → Int32)) : Nat → Nat → Nat → List (Nat × Value) → List Value → List va_E → Nat → Nat → Option (Option Value × List va_E)
  | 0, _, _, _, _, _, _, _ => none
  | n + 1, M, pc, ls, st, h, uc, us => match zf M pc with
    | none => none
    | some i => match zo ro M pc ls st h uc us i with
      | none => none
      | some (.inl c) => zr ro n M c.1 c.2.1 c.2.2.1 c.2.2.2.1 c.2.2.2.2.1 c.2.2.2.2.2
      | some (.inr (.inl c)) => if (c.2.1.map (fun v => v.category)).sum ≤ zN c.1 then (match zr ro n c.1 0 (zargs 0 c.2.1) [] h 0 0 with
        | none => none
        | some q => zr ro n M (pc + 3) ls (q.1.toList ++ c.2.2) q.2 (uc + (zrm c.1).cells) (us + (zrm c.1).slots)) else none
      | some (.inr (.inr v)) => some (v, h)
end
section
/-! ===== what holds around a method that the picture speaks of ===== -/
def zEnv (base : Nat) (fa : UInt32 → Nat) (D : va_G) (aC : Nat → ClassId) (ro : UInt32 → Nat × (Nat → Int32)) (U : State) : Prop :=
  va_K D vwCl [(aC 0, .int), (aC 1, .long), (aC 2, .boolean), (aC 3, .object RX8)] U ∧ (∀ w ∈ znest, va_Nw w U) ∧ va_AO RX8 U ∧ (∀ C ∈ [RX6, RX7, RX2, RX1], va_Nw (.castable C RX8) U) ∧
  (∀ x : UInt32, va_T .int (fa x) (ro x).1 (fun j => .int ((ro x).2 j)) (fun q => base ≤ q) U U.heap) ∧ va_Z RX11 "KIND_ABOVE" "[I" (.ref (fa 1)) (fun q => base ≤ q) U U.heap ∧ base ≤ U.heap.size
theorem znest_warm {s U : State} (hW : s.WarmedH U.vm) {w : Cond} (hw : w ∈ znest) (h : va_Nw w s) : va_Nw w U := by
  simp only [znest, List.mem_cons, List.not_mem_nil, or_false] at hw
  rcases hw with rfl | rfl | rfl | rfl | rfl | rfl | rfl | rfl | rfl | rfl <;> exact va_Nw.warmM hW h
theorem zEnv.at {base : Nat} {fa : UInt32 → Nat} {D : va_G} {aC : Nat → ClassId} {ro : UInt32 → Nat × (Nat → Int32)} {s U : State} {H : Heap} {locs : List Loc} (h : zEnv base fa D aC ro s) (hS : va_S (fun q => base ≤ q) s.heap H locs) (hU : U.heap = H) (hW : s.WarmedH U.vm) : zEnv base fa D aC ro U := by
  obtain ⟨h1, h2, h3, h4, h5, h6, h7⟩ := h
  refine ⟨h1.moved hW.alike, fun w hw => znest_warm hW hw (h2 w hw), h3.moved hW.alike, fun C hC => va_Nw.warmC hW (h4 C hC), fun x => ?_, ?_, ?_⟩
  · rw [hU]
    exact ((h5 x).moved hW.alike).kept (fun a h1 h2 => hS.2.1 a h1 h2)
  · rw [hU]
    exact (h6.moved hW.alike).kept (fun a h1 h2 => hS.2.1 a h1 h2)
  · rw [hU]
    exact Nat.le_trans h7 hS.1
theorem zEnv.same {base : Nat} {fa : UInt32 → Nat} {D : va_G} {aC : Nat → ClassId} {ro : UInt32 → Nat × (Nat → Int32)} {u U : State} (h : zEnv base fa D aC ro u) (hv : u.vm = U.vm) (hh : u.heap = U.heap) : zEnv base fa D aC ro U := by
  obtain ⟨h1, h2, h3, h4, h5, h6, h7⟩ := h
  have ha : u.vm.Alike U.vm := hv ▸ Vm.Alike.refl u.vm
  refine ⟨h1.moved ha, fun w hw => va_Nw.same ?_ hv (h2 w hw), h3.moved ha, fun C hC => va_Nw.same rfl hv (h4 C hC), fun x => ?_, ?_, ?_⟩
  · simp only [znest, List.mem_cons, List.not_mem_nil, or_false] at hw
    rcases hw with rfl | rfl | rfl | rfl | rfl | rfl | rfl | rfl | rfl | rfl <;> rfl
  · rw [← hh]; exact (h5 x).moved ha
  · rw [← hh]; exact h6.moved ha
  · rw [← hh]; exact h7
def zH (base : Nat) (fa : UInt32 → Nat) (D : va_G) (aC : Nat → ClassId) (h : List va_E) (H : Heap) : Prop := va_P D vwCl (zwl base fa aC h) H
def zX (p : Program) (s : State) (m : MethodId) (args : Array Value) (meth : Method) (c : Code) (base : Nat) (fa : UInt32 → Nat) (D : va_G) (aC : Nat → ClassId) (ro : UInt32 → Nat × (Nat → Int32)) (L0 M : Nat) : Prop :=
  p.tables.exec = Jvm.exec ∧ c.code = zc M ∧ c.maxLocals = zN M ∧ s.vm.findClass (zy M).cls = some m.cls ∧ (∀ w ∈ zwt, w.before args s = true) ∧ zEnv base fa D aC ro s ∧ (zini M = true → meth.name = "<init>") ∧ M < 190 ∧ s.heap.size = base + L0
theorem zwt_mem {i : Nat} {w : Cond} (h : lw_tbl[i]? = some w) (hg : goodWord w = true) : w ∈ zwt := List.mem_filter.mpr ⟨List.mem_of_getElem? h, hg⟩
theorem zwt_good {w : Cond} (h : w ∈ zwt) : goodWord w = true := (List.mem_filter.mp h).2
theorem zgo_inj {pc : Nat} {ls : List (Nat × Value)} {st : List Value} {h : List va_E} {uc us : Nat} {k : zK} (e : zgo pc ls st h uc us = some k) : k = .inl (pc, ls, st, h, uc, us) := (Option.some.inj e).symm
theorem zju_inj {pc : Nat} {off : Int} {ls : List (Nat × Value)} {st : List Value} {h : List va_E} {uc us : Nat} {k : zK} (e : zju pc off ls st h uc us = some k) : ∃ t : Nat, (pc : Int) + off = (t : Int) ∧ k = .inl (t, ls, st, h, uc, us) := by
  unfold zju at e
  split at e
  · next t ht => exact ⟨t, ztg_spec ht, zgo_inj e⟩
  · cases e
theorem zbr_inj {c : Prop} [Decidable c] {pc : Nat} {off : Int} {ls : List (Nat × Value)} {st : List Value} {h : List va_E} {uc us : Nat} {k : zK} (e : zbr c pc off ls st h uc us = some k) : ∃ t : Nat, (pc : Int) + off = (t : Int) ∧ k = .inl (if c then t else pc + 3, ls, st, h, uc, us) := by
  unfold zbr at e
  split at e
  · next t ht => exact ⟨t, ztg_spec ht, zgo_inj e⟩
  · cases e
/-- the words of the fields of each class -/
theorem zuw0 : ∀ ci, ci < 13 → ∀ q, vwCl[ci]? = some q → ∀ w ∈ u_ws q.1 q.2.1 q.2.2, w ∈ zwt := by
  intro ci hci
  have key : ∀ (C : String) (T : u_T) (N : Nat) (ps : List Nat), (ps.map (fun i => lw_tbl[i]?) = (u_ws C T N).map some ∧ (u_ws C T N).all goodWord = true) → ∀ w ∈ u_ws C T N, w ∈ zwt := by
    intro C T N ps hp w hw
    obtain ⟨k, hk⟩ := List.getElem?_of_mem hw
    have h1 : (ps.map (fun i => lw_tbl[i]?))[k]? = some (some w) := by rw [hp.1, List.getElem?_map, hk]; rfl
    rw [List.getElem?_map] at h1
    cases hi : ps[k]? with
    | none => rw [hi] at h1; cases h1
    | some i => rw [hi] at h1; exact zwt_mem (Option.some.inj h1) (List.all_eq_true.mp hp.2 w hw)
  match ci, hci with
  | 0, _ => intro q hq; cases hq; exact key _ _ _ [339, 341, 343, 345, 347, 349] (by decide +kernel)
  | 1, _ => intro q hq; cases hq; exact key _ _ _ [401] (by decide +kernel)
  | 2, _ => intro q hq; cases hq; exact key _ _ _ [393] (by decide +kernel)
  | 3, _ => intro q hq; cases hq; exact key _ _ _ [275, 277, 279, 281, 283] (by decide +kernel)
  | 4, _ => intro q hq; cases hq; exact key _ _ _ [123, 125, 127, 129, 131, 133, 135, 137, 139, 141, 143] (by decide +kernel)
  | 5, _ => intro q hq; cases hq; exact key _ _ _ [301, 303, 305, 307, 309, 311, 313, 315, 317] (by decide +kernel)
  | 6, _ => intro q hq; cases hq; exact key _ _ _ [377] (by decide +kernel)
  | 7, _ => intro q hq; cases hq; exact key _ _ _ [385] (by decide +kernel)
  | 8, _ => intro q hq; cases hq; exact key _ _ _ [368] (by decide +kernel)
  | 9, _ => intro q hq; cases hq; exact key _ _ _ [192, 194, 196, 198, 200, 202, 204, 206, 208, 210] (by decide +kernel)
  | 10, _ => intro q hq; cases hq; exact key _ _ _ [236, 238, 240, 242, 244, 246, 248, 250, 252, 254, 256, 258, 260] (by decide +kernel)
  | 11, _ => intro q hq; cases hq; exact key _ _ _ [411, 413, 415, 417, 419, 421, 423, 425] (by decide +kernel)
  | 12, _ => intro q hq; cases hq; exact key _ _ _ [975, 977, 979, 981, 983, 985, 987, 989, 991, 993, 995, 997, 999, 1001, 1003, 1005, 1007, 1009, 1011, 1013, 1015, 1017, 1019, 1021, 1023, 1025, 1027, 1029, 1031, 1033, 1035, 1037, 1039, 1041, 1043, 1045, 1047, 1049, 1051, 1053, 1055, 1057, 1059, 1061, 1063, 1065, 1067, 1069, 1071, 1073, 1075, 1077, 1079, 1081, 1083] (by decide +kernel)
end
section
section ZST
variable {p : Program} {l : Launch} {e : Env} {s : State} {m : MethodId} {args : Array Value} {below : List Frame} {meth : Method} {c : Code} {base : Nat} {fa : UInt32 → Nat} {D : va_G} {aC : Nat → ClassId} {ro : UInt32 → Nat × (Nat → Int32)} {Q : State → Prop} {L0 M pc : Nat} {ls : List (Nat × Value)} {st : List Value} {h : List va_E} {uc us : Nat} {H : Heap} {locs : List Loc} {A : Array Slot}
/-- what a step needs of the machine's next place -/
def zKK (p : Program) (l : Launch) (e : Env) (s : State) (m : MethodId) (args : Array Value) (below : List Frame) (meth : Method) (c : Code) (base : Nat) (fa : UInt32 → Nat) (D : va_G) (aC : Nat → ClassId) (Q : State → Prop) (L0 M : Nat) (k : zK) : Prop := match k with
  | .inl q => ∀ (H1 : Heap) (locs1 : List Loc) (A1 : Array Slot), zH base fa D aC q.2.2.2.1 H1 → va_S (fun q => base ≤ q) s.heap H1 locs1 → lv_has A1 (zN M) (zlm base fa q.2.1) → q.2.2.2.1.length = L0 + q.2.2.2.2.1 → W p l e (zrm M) s m args below meth c H1 locs1 q.2.2.2.2.1 q.2.2.2.2.2 Q (F0 m q.1 A1 (q.2.2.1.map (zsh base fa)))
  | .inr _ => True
theorem zs_iconst {n : Int} (X : zX p s m args meth c base fa D aC ro L0 M) (hz : zf M pc = some (.iconst n)) {k : zK} (ho : zo ro M pc ls st h uc us (.iconst n) = some k) (hH : zH base fa D aC h H) (hS : va_S (fun q => base ≤ q) s.heap H locs) (hl : lv_has A (zN M) (zlm base fa ls)) (hL : h.length = L0 + uc) (kk : zKK p l e s m args below meth c base fa D aC Q L0 M k) : W p l e (zrm M) s m args below meth c H locs uc us Q (F0 m pc A (st.map (zsh base fa))) := by
  obtain ⟨hx, hb, hml, hown, hts, hE, hin, hM, hs0⟩ := X
  obtain ⟨n0, hd, hn0⟩ := zf_spec hz
  have hn0 := hn0.resolve_left (fun q => by cases q)
  subst hn0
  obtain rfl := zgo_inj ho
  exact lv_iconst hx hb hd rfl (kk _ _ _ hH hS hl hL)
theorem zs_bipush {n : Int} (X : zX p s m args meth c base fa D aC ro L0 M) (hz : zf M pc = some (.bipush n)) {k : zK} (ho : zo ro M pc ls st h uc us (.bipush n) = some k) (hH : zH base fa D aC h H) (hS : va_S (fun q => base ≤ q) s.heap H locs) (hl : lv_has A (zN M) (zlm base fa ls)) (hL : h.length = L0 + uc) (kk : zKK p l e s m args below meth c base fa D aC Q L0 M k) : W p l e (zrm M) s m args below meth c H locs uc us Q (F0 m pc A (st.map (zsh base fa))) := by
  obtain ⟨hx, hb, hml, hown, hts, hE, hin, hM, hs0⟩ := X
  obtain ⟨n0, hd, hn0⟩ := zf_spec hz
  have hn0 := hn0.resolve_left (fun q => by cases q)
  subst hn0
  obtain rfl := zgo_inj ho
  exact lv_bipush hx hb hd rfl (kk _ _ _ hH hS hl hL)
theorem zs_sipush {n : Int} (X : zX p s m args meth c base fa D aC ro L0 M) (hz : zf M pc = some (.sipush n)) {k : zK} (ho : zo ro M pc ls st h uc us (.sipush n) = some k) (hH : zH base fa D aC h H) (hS : va_S (fun q => base ≤ q) s.heap H locs) (hl : lv_has A (zN M) (zlm base fa ls)) (hL : h.length = L0 + uc) (kk : zKK p l e s m args below meth c base fa D aC Q L0 M k) : W p l e (zrm M) s m args below meth c H locs uc us Q (F0 m pc A (st.map (zsh base fa))) := by
  obtain ⟨hx, hb, hml, hown, hts, hE, hin, hM, hs0⟩ := X
  obtain ⟨n0, hd, hn0⟩ := zf_spec hz
  have hn0 := hn0.resolve_left (fun q => by cases q)
  subst hn0
  obtain rfl := zgo_inj ho
  exact lv_sipush hx hb hd rfl (kk _ _ _ hH hS hl hL)
theorem zs_lconst {n : Fin 2} (X : zX p s m args meth c base fa D aC ro L0 M) (hz : zf M pc = some (.lconst n)) {k : zK} (ho : zo ro M pc ls st h uc us (.lconst n) = some k) (hH : zH base fa D aC h H) (hS : va_S (fun q => base ≤ q) s.heap H locs) (hl : lv_has A (zN M) (zlm base fa ls)) (hL : h.length = L0 + uc) (kk : zKK p l e s m args below meth c base fa D aC Q L0 M k) : W p l e (zrm M) s m args below meth c H locs uc us Q (F0 m pc A (st.map (zsh base fa))) := by
  obtain ⟨hx, hb, hml, hown, hts, hE, hin, hM, hs0⟩ := X
  obtain ⟨n0, hd, hn0⟩ := zf_spec hz
  have hn0 := hn0.resolve_left (fun q => by cases q)
  subst hn0
  obtain rfl := zgo_inj ho
  exact lv_lconst hx hb hd rfl (kk _ _ _ hH hS hl hL)
theorem zs_iload_n {n : Fin 4} (X : zX p s m args meth c base fa D aC ro L0 M) (hz : zf M pc = some (.iload_n n)) {k : zK} (ho : zo ro M pc ls st h uc us (.iload_n n) = some k) (hH : zH base fa D aC h H) (hS : va_S (fun q => base ≤ q) s.heap H locs) (hl : lv_has A (zN M) (zlm base fa ls)) (hL : h.length = L0 + uc) (kk : zKK p l e s m args below meth c base fa D aC Q L0 M k) : W p l e (zrm M) s m args below meth c H locs uc us Q (F0 m pc A (st.map (zsh base fa))) := by
  obtain ⟨hx, hb, hml, hown, hts, hE, hin, hM, hs0⟩ := X
  obtain ⟨n0, hd, hn0⟩ := zf_spec hz
  have hn0 := hn0.resolve_left (fun q => by cases q)
  subst hn0
  simp only [zo] at ho
  split at ho
  · next x hv => obtain rfl := zgo_inj ho; exact lv_iload_n hx hb hd rfl (zlm_at hl hv) (kk _ _ _ hH hS hl hL)
  · cases ho
theorem zs_iload {n : Nat} (X : zX p s m args meth c base fa D aC ro L0 M) (hz : zf M pc = some (.iload n)) {k : zK} (ho : zo ro M pc ls st h uc us (.iload n) = some k) (hH : zH base fa D aC h H) (hS : va_S (fun q => base ≤ q) s.heap H locs) (hl : lv_has A (zN M) (zlm base fa ls)) (hL : h.length = L0 + uc) (kk : zKK p l e s m args below meth c base fa D aC Q L0 M k) : W p l e (zrm M) s m args below meth c H locs uc us Q (F0 m pc A (st.map (zsh base fa))) := by
  obtain ⟨hx, hb, hml, hown, hts, hE, hin, hM, hs0⟩ := X
  obtain ⟨n0, hd, hn0⟩ := zf_spec hz
  have hn0 := hn0.resolve_left (fun q => by cases q)
  subst hn0
  simp only [zo] at ho
  split at ho
  · next x hv => obtain rfl := zgo_inj ho; exact lv_iload hx hb hd (zlm_at hl hv) (kk _ _ _ hH hS hl hL)
  · cases ho
theorem zs_lload_n {n : Fin 4} (X : zX p s m args meth c base fa D aC ro L0 M) (hz : zf M pc = some (.lload_n n)) {k : zK} (ho : zo ro M pc ls st h uc us (.lload_n n) = some k) (hH : zH base fa D aC h H) (hS : va_S (fun q => base ≤ q) s.heap H locs) (hl : lv_has A (zN M) (zlm base fa ls)) (hL : h.length = L0 + uc) (kk : zKK p l e s m args below meth c base fa D aC Q L0 M k) : W p l e (zrm M) s m args below meth c H locs uc us Q (F0 m pc A (st.map (zsh base fa))) := by
  obtain ⟨hx, hb, hml, hown, hts, hE, hin, hM, hs0⟩ := X
  obtain ⟨n0, hd, hn0⟩ := zf_spec hz
  have hn0 := hn0.resolve_left (fun q => by cases q)
  subst hn0
  simp only [zo] at ho
  split at ho
  · next x hv => obtain rfl := zgo_inj ho; exact lv_lload_n hx hb hd rfl (zlm_at hl hv) (kk _ _ _ hH hS hl hL)
  · cases ho
theorem zs_lload {n : Nat} (X : zX p s m args meth c base fa D aC ro L0 M) (hz : zf M pc = some (.lload n)) {k : zK} (ho : zo ro M pc ls st h uc us (.lload n) = some k) (hH : zH base fa D aC h H) (hS : va_S (fun q => base ≤ q) s.heap H locs) (hl : lv_has A (zN M) (zlm base fa ls)) (hL : h.length = L0 + uc) (kk : zKK p l e s m args below meth c base fa D aC Q L0 M k) : W p l e (zrm M) s m args below meth c H locs uc us Q (F0 m pc A (st.map (zsh base fa))) := by
  obtain ⟨hx, hb, hml, hown, hts, hE, hin, hM, hs0⟩ := X
  obtain ⟨n0, hd, hn0⟩ := zf_spec hz
  have hn0 := hn0.resolve_left (fun q => by cases q)
  subst hn0
  simp only [zo] at ho
  split at ho
  · next x hv => obtain rfl := zgo_inj ho; exact lv_lload hx hb hd (zlm_at hl hv) (kk _ _ _ hH hS hl hL)
  · cases ho
theorem zs_aload {n : Nat} (X : zX p s m args meth c base fa D aC ro L0 M) (hz : zf M pc = some (.aload n)) {k : zK} (ho : zo ro M pc ls st h uc us (.aload n) = some k) (hH : zH base fa D aC h H) (hS : va_S (fun q => base ≤ q) s.heap H locs) (hl : lv_has A (zN M) (zlm base fa ls)) (hL : h.length = L0 + uc) (kk : zKK p l e s m args below meth c base fa D aC Q L0 M k) : W p l e (zrm M) s m args below meth c H locs uc us Q (F0 m pc A (st.map (zsh base fa))) := by
  obtain ⟨hx, hb, hml, hown, hts, hE, hin, hM, hs0⟩ := X
  obtain ⟨n0, hd, hn0⟩ := zf_spec hz
  have hn0 := hn0.resolve_left (fun q => by cases q)
  subst hn0
  simp only [zo] at ho
  split at ho
  · next x hv => obtain rfl := zgo_inj ho; exact lv_aload hx hb hd (zlm_at hl hv) (kk _ _ _ hH hS hl hL)
  · cases ho
theorem zs_aload_n {n : Fin 4} (X : zX p s m args meth c base fa D aC ro L0 M) (hz : zf M pc = some (.aload_n n)) {k : zK} (ho : zo ro M pc ls st h uc us (.aload_n n) = some k) (hH : zH base fa D aC h H) (hS : va_S (fun q => base ≤ q) s.heap H locs) (hl : lv_has A (zN M) (zlm base fa ls)) (hL : h.length = L0 + uc) (kk : zKK p l e s m args below meth c base fa D aC Q L0 M k) : W p l e (zrm M) s m args below meth c H locs uc us Q (F0 m pc A (st.map (zsh base fa))) := by
  obtain ⟨hx, hb, hml, hown, hts, hE, hin, hM, hs0⟩ := X
  obtain ⟨n0, hd, hn0⟩ := zf_spec hz
  have hn0 := hn0.resolve_left (fun q => by cases q)
  subst hn0
  simp only [zo] at ho
  split at ho
  · next x hv => obtain rfl := zgo_inj ho; exact lv_aload_n hx hb hd rfl (zlm_at hl hv) (kk _ _ _ hH hS hl hL)
  · next x hv => obtain rfl := zgo_inj ho; exact lv_aload_n hx hb hd rfl (zlm_at hl hv) (kk _ _ _ hH hS hl hL)
  · cases ho
theorem zs_istore_n {n : Fin 4} (X : zX p s m args meth c base fa D aC ro L0 M) (hz : zf M pc = some (.istore_n n)) {k : zK} (ho : zo ro M pc ls st h uc us (.istore_n n) = some k) (hH : zH base fa D aC h H) (hS : va_S (fun q => base ≤ q) s.heap H locs) (hl : lv_has A (zN M) (zlm base fa ls)) (hL : h.length = L0 + uc) (kk : zKK p l e s m args below meth c base fa D aC Q L0 M k) : W p l e (zrm M) s m args below meth c H locs uc us Q (F0 m pc A (st.map (zsh base fa))) := by
  obtain ⟨hx, hb, hml, hown, hts, hE, hin, hM, hs0⟩ := X
  obtain ⟨n0, hd, hn0⟩ := zf_spec hz
  have hn0 := hn0.resolve_left (fun q => by cases q)
  subst hn0
  simp only [zo] at ho
  split at ho
  · next x st' =>
    split at ho
    · next hk => obtain rfl := zgo_inj ho; exact lv_istore_n hx hb hd rfl hl hk (zlm_s1 base fa ls _ (.int x)) (fun A1 hl1 => kk _ _ A1 hH hS hl1 hL)
    · cases ho
  · cases ho
theorem zs_istore {n : Nat} (X : zX p s m args meth c base fa D aC ro L0 M) (hz : zf M pc = some (.istore n)) {k : zK} (ho : zo ro M pc ls st h uc us (.istore n) = some k) (hH : zH base fa D aC h H) (hS : va_S (fun q => base ≤ q) s.heap H locs) (hl : lv_has A (zN M) (zlm base fa ls)) (hL : h.length = L0 + uc) (kk : zKK p l e s m args below meth c base fa D aC Q L0 M k) : W p l e (zrm M) s m args below meth c H locs uc us Q (F0 m pc A (st.map (zsh base fa))) := by
  obtain ⟨hx, hb, hml, hown, hts, hE, hin, hM, hs0⟩ := X
  obtain ⟨n0, hd, hn0⟩ := zf_spec hz
  have hn0 := hn0.resolve_left (fun q => by cases q)
  subst hn0
  simp only [zo] at ho
  split at ho
  · next x st' =>
    split at ho
    · next hk => obtain rfl := zgo_inj ho; exact lv_istore hx hb hd hl hk (zlm_s1 base fa ls _ (.int x)) (fun A1 hl1 => kk _ _ A1 hH hS hl1 hL)
    · cases ho
  · cases ho
theorem zs_lstore_n {n : Fin 4} (X : zX p s m args meth c base fa D aC ro L0 M) (hz : zf M pc = some (.lstore_n n)) {k : zK} (ho : zo ro M pc ls st h uc us (.lstore_n n) = some k) (hH : zH base fa D aC h H) (hS : va_S (fun q => base ≤ q) s.heap H locs) (hl : lv_has A (zN M) (zlm base fa ls)) (hL : h.length = L0 + uc) (kk : zKK p l e s m args below meth c base fa D aC Q L0 M k) : W p l e (zrm M) s m args below meth c H locs uc us Q (F0 m pc A (st.map (zsh base fa))) := by
  obtain ⟨hx, hb, hml, hown, hts, hE, hin, hM, hs0⟩ := X
  obtain ⟨n0, hd, hn0⟩ := zf_spec hz
  have hn0 := hn0.resolve_left (fun q => by cases q)
  subst hn0
  simp only [zo] at ho
  split at ho
  · next x st' =>
    split at ho
    · next hk => obtain rfl := zgo_inj ho; exact lv_lstore_n hx hb hd rfl hl hk (zlm_s2 base fa ls _ (.long x)) (fun A1 hl1 => kk _ _ A1 hH hS hl1 hL)
    · cases ho
  · cases ho
theorem zs_lstore {n : Nat} (X : zX p s m args meth c base fa D aC ro L0 M) (hz : zf M pc = some (.lstore n)) {k : zK} (ho : zo ro M pc ls st h uc us (.lstore n) = some k) (hH : zH base fa D aC h H) (hS : va_S (fun q => base ≤ q) s.heap H locs) (hl : lv_has A (zN M) (zlm base fa ls)) (hL : h.length = L0 + uc) (kk : zKK p l e s m args below meth c base fa D aC Q L0 M k) : W p l e (zrm M) s m args below meth c H locs uc us Q (F0 m pc A (st.map (zsh base fa))) := by
  obtain ⟨hx, hb, hml, hown, hts, hE, hin, hM, hs0⟩ := X
  obtain ⟨n0, hd, hn0⟩ := zf_spec hz
  have hn0 := hn0.resolve_left (fun q => by cases q)
  subst hn0
  simp only [zo] at ho
  split at ho
  · next x st' =>
    split at ho
    · next hk => obtain rfl := zgo_inj ho; exact lv_lstore hx hb hd hl hk (zlm_s2 base fa ls _ (.long x)) (fun A1 hl1 => kk _ _ A1 hH hS hl1 hL)
    · cases ho
  · cases ho
theorem zs_astore_n {n : Fin 4} (X : zX p s m args meth c base fa D aC ro L0 M) (hz : zf M pc = some (.astore_n n)) {k : zK} (ho : zo ro M pc ls st h uc us (.astore_n n) = some k) (hH : zH base fa D aC h H) (hS : va_S (fun q => base ≤ q) s.heap H locs) (hl : lv_has A (zN M) (zlm base fa ls)) (hL : h.length = L0 + uc) (kk : zKK p l e s m args below meth c base fa D aC Q L0 M k) : W p l e (zrm M) s m args below meth c H locs uc us Q (F0 m pc A (st.map (zsh base fa))) := by
  obtain ⟨hx, hb, hml, hown, hts, hE, hin, hM, hs0⟩ := X
  obtain ⟨n0, hd, hn0⟩ := zf_spec hz
  have hn0 := hn0.resolve_left (fun q => by cases q)
  subst hn0
  simp only [zo] at ho
  split at ho
  · next x st' =>
    split at ho
    · next hk => obtain rfl := zgo_inj ho; exact lv_astore_n hx hb hd rfl hl hk (zlm_s1 base fa ls _ (.ref x)) (fun A1 hl1 => kk _ _ A1 hH hS hl1 hL)
    · cases ho
  · cases ho
theorem zs_astore {n : Nat} (X : zX p s m args meth c base fa D aC ro L0 M) (hz : zf M pc = some (.astore n)) {k : zK} (ho : zo ro M pc ls st h uc us (.astore n) = some k) (hH : zH base fa D aC h H) (hS : va_S (fun q => base ≤ q) s.heap H locs) (hl : lv_has A (zN M) (zlm base fa ls)) (hL : h.length = L0 + uc) (kk : zKK p l e s m args below meth c base fa D aC Q L0 M k) : W p l e (zrm M) s m args below meth c H locs uc us Q (F0 m pc A (st.map (zsh base fa))) := by
  obtain ⟨hx, hb, hml, hown, hts, hE, hin, hM, hs0⟩ := X
  obtain ⟨n0, hd, hn0⟩ := zf_spec hz
  have hn0 := hn0.resolve_left (fun q => by cases q)
  subst hn0
  simp only [zo] at ho
  split at ho
  · next x st' =>
    split at ho
    · next hk => obtain rfl := zgo_inj ho; exact lv_astore hx hb hd hl hk (zlm_s1 base fa ls _ (.ref x)) (fun A1 hl1 => kk _ _ A1 hH hS hl1 hL)
    · cases ho
  · cases ho
theorem zs_iinc {n : Nat} {d : Int} (X : zX p s m args meth c base fa D aC ro L0 M) (hz : zf M pc = some (.iinc n d)) {k : zK} (ho : zo ro M pc ls st h uc us (.iinc n d) = some k) (hH : zH base fa D aC h H) (hS : va_S (fun q => base ≤ q) s.heap H locs) (hl : lv_has A (zN M) (zlm base fa ls)) (hL : h.length = L0 + uc) (kk : zKK p l e s m args below meth c base fa D aC Q L0 M k) : W p l e (zrm M) s m args below meth c H locs uc us Q (F0 m pc A (st.map (zsh base fa))) := by
  obtain ⟨hx, hb, hml, hown, hts, hE, hin, hM, hs0⟩ := X
  obtain ⟨n0, hd, hn0⟩ := zf_spec hz
  have hn0 := hn0.resolve_left (fun q => by cases q)
  subst hn0
  simp only [zo] at ho
  split at ho
  · next x hv =>
    split at ho
    · next hk =>
      obtain rfl := zgo_inj ho
      obtain ⟨q, hq⟩ := List.getElem?_of_mem (List.mem_map.mpr ⟨(n, Value.int x), zld_mem hv, rfl⟩ : (n, zsh base fa (Value.int x)) ∈ zlm base fa ls)
      exact lv_iinc hx hb hd hl (k := q) hq rfl hk (zlm_s1 base fa ls _ (.int (x + Int32.ofInt d))) (fun A1 hl1 => kk _ _ A1 hH hS hl1 hL)
    · cases ho
  · cases ho
theorem zs_iadd  (X : zX p s m args meth c base fa D aC ro L0 M) (hz : zf M pc = some (.iadd)) {k : zK} (ho : zo ro M pc ls st h uc us (.iadd) = some k) (hH : zH base fa D aC h H) (hS : va_S (fun q => base ≤ q) s.heap H locs) (hl : lv_has A (zN M) (zlm base fa ls)) (hL : h.length = L0 + uc) (kk : zKK p l e s m args below meth c base fa D aC Q L0 M k) : W p l e (zrm M) s m args below meth c H locs uc us Q (F0 m pc A (st.map (zsh base fa))) := by
  obtain ⟨hx, hb, hml, hown, hts, hE, hin, hM, hs0⟩ := X
  obtain ⟨n0, hd, hn0⟩ := zf_spec hz
  have hn0 := hn0.resolve_left (fun q => by cases q)
  subst hn0
  simp only [zo] at ho
  split at ho
  · obtain rfl := zgo_inj ho; exact lv_iadd hx hb hd (kk _ _ _ hH hS hl hL)
  · cases ho
theorem zs_isub  (X : zX p s m args meth c base fa D aC ro L0 M) (hz : zf M pc = some (.isub)) {k : zK} (ho : zo ro M pc ls st h uc us (.isub) = some k) (hH : zH base fa D aC h H) (hS : va_S (fun q => base ≤ q) s.heap H locs) (hl : lv_has A (zN M) (zlm base fa ls)) (hL : h.length = L0 + uc) (kk : zKK p l e s m args below meth c base fa D aC Q L0 M k) : W p l e (zrm M) s m args below meth c H locs uc us Q (F0 m pc A (st.map (zsh base fa))) := by
  obtain ⟨hx, hb, hml, hown, hts, hE, hin, hM, hs0⟩ := X
  obtain ⟨n0, hd, hn0⟩ := zf_spec hz
  have hn0 := hn0.resolve_left (fun q => by cases q)
  subst hn0
  simp only [zo] at ho
  split at ho
  · obtain rfl := zgo_inj ho; exact lv_isub hx hb hd (kk _ _ _ hH hS hl hL)
  · cases ho
theorem zs_imul  (X : zX p s m args meth c base fa D aC ro L0 M) (hz : zf M pc = some (.imul)) {k : zK} (ho : zo ro M pc ls st h uc us (.imul) = some k) (hH : zH base fa D aC h H) (hS : va_S (fun q => base ≤ q) s.heap H locs) (hl : lv_has A (zN M) (zlm base fa ls)) (hL : h.length = L0 + uc) (kk : zKK p l e s m args below meth c base fa D aC Q L0 M k) : W p l e (zrm M) s m args below meth c H locs uc us Q (F0 m pc A (st.map (zsh base fa))) := by
  obtain ⟨hx, hb, hml, hown, hts, hE, hin, hM, hs0⟩ := X
  obtain ⟨n0, hd, hn0⟩ := zf_spec hz
  have hn0 := hn0.resolve_left (fun q => by cases q)
  subst hn0
  simp only [zo] at ho
  split at ho
  · obtain rfl := zgo_inj ho; exact lv_imul hx hb hd (kk _ _ _ hH hS hl hL)
  · cases ho
theorem zs_iand  (X : zX p s m args meth c base fa D aC ro L0 M) (hz : zf M pc = some (.iand)) {k : zK} (ho : zo ro M pc ls st h uc us (.iand) = some k) (hH : zH base fa D aC h H) (hS : va_S (fun q => base ≤ q) s.heap H locs) (hl : lv_has A (zN M) (zlm base fa ls)) (hL : h.length = L0 + uc) (kk : zKK p l e s m args below meth c base fa D aC Q L0 M k) : W p l e (zrm M) s m args below meth c H locs uc us Q (F0 m pc A (st.map (zsh base fa))) := by
  obtain ⟨hx, hb, hml, hown, hts, hE, hin, hM, hs0⟩ := X
  obtain ⟨n0, hd, hn0⟩ := zf_spec hz
  have hn0 := hn0.resolve_left (fun q => by cases q)
  subst hn0
  simp only [zo] at ho
  split at ho
  · obtain rfl := zgo_inj ho; exact lv_iand hx hb hd (kk _ _ _ hH hS hl hL)
  · cases ho
theorem zs_ior  (X : zX p s m args meth c base fa D aC ro L0 M) (hz : zf M pc = some (.ior)) {k : zK} (ho : zo ro M pc ls st h uc us (.ior) = some k) (hH : zH base fa D aC h H) (hS : va_S (fun q => base ≤ q) s.heap H locs) (hl : lv_has A (zN M) (zlm base fa ls)) (hL : h.length = L0 + uc) (kk : zKK p l e s m args below meth c base fa D aC Q L0 M k) : W p l e (zrm M) s m args below meth c H locs uc us Q (F0 m pc A (st.map (zsh base fa))) := by
  obtain ⟨hx, hb, hml, hown, hts, hE, hin, hM, hs0⟩ := X
  obtain ⟨n0, hd, hn0⟩ := zf_spec hz
  have hn0 := hn0.resolve_left (fun q => by cases q)
  subst hn0
  simp only [zo] at ho
  split at ho
  · obtain rfl := zgo_inj ho; exact lv_ior hx hb hd (kk _ _ _ hH hS hl hL)
  · cases ho
theorem zs_ixor  (X : zX p s m args meth c base fa D aC ro L0 M) (hz : zf M pc = some (.ixor)) {k : zK} (ho : zo ro M pc ls st h uc us (.ixor) = some k) (hH : zH base fa D aC h H) (hS : va_S (fun q => base ≤ q) s.heap H locs) (hl : lv_has A (zN M) (zlm base fa ls)) (hL : h.length = L0 + uc) (kk : zKK p l e s m args below meth c base fa D aC Q L0 M k) : W p l e (zrm M) s m args below meth c H locs uc us Q (F0 m pc A (st.map (zsh base fa))) := by
  obtain ⟨hx, hb, hml, hown, hts, hE, hin, hM, hs0⟩ := X
  obtain ⟨n0, hd, hn0⟩ := zf_spec hz
  have hn0 := hn0.resolve_left (fun q => by cases q)
  subst hn0
  simp only [zo] at ho
  split at ho
  · obtain rfl := zgo_inj ho; exact lv_ixor hx hb hd (kk _ _ _ hH hS hl hL)
  · cases ho
theorem zs_ishl  (X : zX p s m args meth c base fa D aC ro L0 M) (hz : zf M pc = some (.ishl)) {k : zK} (ho : zo ro M pc ls st h uc us (.ishl) = some k) (hH : zH base fa D aC h H) (hS : va_S (fun q => base ≤ q) s.heap H locs) (hl : lv_has A (zN M) (zlm base fa ls)) (hL : h.length = L0 + uc) (kk : zKK p l e s m args below meth c base fa D aC Q L0 M k) : W p l e (zrm M) s m args below meth c H locs uc us Q (F0 m pc A (st.map (zsh base fa))) := by
  obtain ⟨hx, hb, hml, hown, hts, hE, hin, hM, hs0⟩ := X
  obtain ⟨n0, hd, hn0⟩ := zf_spec hz
  have hn0 := hn0.resolve_left (fun q => by cases q)
  subst hn0
  simp only [zo] at ho
  split at ho
  · obtain rfl := zgo_inj ho; exact lv_ishl hx hb hd (kk _ _ _ hH hS hl hL)
  · cases ho
theorem zs_ishr  (X : zX p s m args meth c base fa D aC ro L0 M) (hz : zf M pc = some (.ishr)) {k : zK} (ho : zo ro M pc ls st h uc us (.ishr) = some k) (hH : zH base fa D aC h H) (hS : va_S (fun q => base ≤ q) s.heap H locs) (hl : lv_has A (zN M) (zlm base fa ls)) (hL : h.length = L0 + uc) (kk : zKK p l e s m args below meth c base fa D aC Q L0 M k) : W p l e (zrm M) s m args below meth c H locs uc us Q (F0 m pc A (st.map (zsh base fa))) := by
  obtain ⟨hx, hb, hml, hown, hts, hE, hin, hM, hs0⟩ := X
  obtain ⟨n0, hd, hn0⟩ := zf_spec hz
  have hn0 := hn0.resolve_left (fun q => by cases q)
  subst hn0
  simp only [zo] at ho
  split at ho
  · obtain rfl := zgo_inj ho; exact lv_ishr hx hb hd (kk _ _ _ hH hS hl hL)
  · cases ho
theorem zs_ladd  (X : zX p s m args meth c base fa D aC ro L0 M) (hz : zf M pc = some (.ladd)) {k : zK} (ho : zo ro M pc ls st h uc us (.ladd) = some k) (hH : zH base fa D aC h H) (hS : va_S (fun q => base ≤ q) s.heap H locs) (hl : lv_has A (zN M) (zlm base fa ls)) (hL : h.length = L0 + uc) (kk : zKK p l e s m args below meth c base fa D aC Q L0 M k) : W p l e (zrm M) s m args below meth c H locs uc us Q (F0 m pc A (st.map (zsh base fa))) := by
  obtain ⟨hx, hb, hml, hown, hts, hE, hin, hM, hs0⟩ := X
  obtain ⟨n0, hd, hn0⟩ := zf_spec hz
  have hn0 := hn0.resolve_left (fun q => by cases q)
  subst hn0
  simp only [zo] at ho
  split at ho
  · obtain rfl := zgo_inj ho; exact lv_ladd hx hb hd (kk _ _ _ hH hS hl hL)
  · cases ho
theorem zs_lsub  (X : zX p s m args meth c base fa D aC ro L0 M) (hz : zf M pc = some (.lsub)) {k : zK} (ho : zo ro M pc ls st h uc us (.lsub) = some k) (hH : zH base fa D aC h H) (hS : va_S (fun q => base ≤ q) s.heap H locs) (hl : lv_has A (zN M) (zlm base fa ls)) (hL : h.length = L0 + uc) (kk : zKK p l e s m args below meth c base fa D aC Q L0 M k) : W p l e (zrm M) s m args below meth c H locs uc us Q (F0 m pc A (st.map (zsh base fa))) := by
  obtain ⟨hx, hb, hml, hown, hts, hE, hin, hM, hs0⟩ := X
  obtain ⟨n0, hd, hn0⟩ := zf_spec hz
  have hn0 := hn0.resolve_left (fun q => by cases q)
  subst hn0
  simp only [zo] at ho
  split at ho
  · obtain rfl := zgo_inj ho; exact lv_lsub hx hb hd (kk _ _ _ hH hS hl hL)
  · cases ho
theorem zs_lmul  (X : zX p s m args meth c base fa D aC ro L0 M) (hz : zf M pc = some (.lmul)) {k : zK} (ho : zo ro M pc ls st h uc us (.lmul) = some k) (hH : zH base fa D aC h H) (hS : va_S (fun q => base ≤ q) s.heap H locs) (hl : lv_has A (zN M) (zlm base fa ls)) (hL : h.length = L0 + uc) (kk : zKK p l e s m args below meth c base fa D aC Q L0 M k) : W p l e (zrm M) s m args below meth c H locs uc us Q (F0 m pc A (st.map (zsh base fa))) := by
  obtain ⟨hx, hb, hml, hown, hts, hE, hin, hM, hs0⟩ := X
  obtain ⟨n0, hd, hn0⟩ := zf_spec hz
  have hn0 := hn0.resolve_left (fun q => by cases q)
  subst hn0
  simp only [zo] at ho
  split at ho
  · obtain rfl := zgo_inj ho; exact lv_lmul hx hb hd (kk _ _ _ hH hS hl hL)
  · cases ho
theorem zs_lor  (X : zX p s m args meth c base fa D aC ro L0 M) (hz : zf M pc = some (.lor)) {k : zK} (ho : zo ro M pc ls st h uc us (.lor) = some k) (hH : zH base fa D aC h H) (hS : va_S (fun q => base ≤ q) s.heap H locs) (hl : lv_has A (zN M) (zlm base fa ls)) (hL : h.length = L0 + uc) (kk : zKK p l e s m args below meth c base fa D aC Q L0 M k) : W p l e (zrm M) s m args below meth c H locs uc us Q (F0 m pc A (st.map (zsh base fa))) := by
  obtain ⟨hx, hb, hml, hown, hts, hE, hin, hM, hs0⟩ := X
  obtain ⟨n0, hd, hn0⟩ := zf_spec hz
  have hn0 := hn0.resolve_left (fun q => by cases q)
  subst hn0
  simp only [zo] at ho
  split at ho
  · obtain rfl := zgo_inj ho; exact lv_lor hx hb hd (kk _ _ _ hH hS hl hL)
  · cases ho
theorem zs_ineg  (X : zX p s m args meth c base fa D aC ro L0 M) (hz : zf M pc = some (.ineg)) {k : zK} (ho : zo ro M pc ls st h uc us (.ineg) = some k) (hH : zH base fa D aC h H) (hS : va_S (fun q => base ≤ q) s.heap H locs) (hl : lv_has A (zN M) (zlm base fa ls)) (hL : h.length = L0 + uc) (kk : zKK p l e s m args below meth c base fa D aC Q L0 M k) : W p l e (zrm M) s m args below meth c H locs uc us Q (F0 m pc A (st.map (zsh base fa))) := by
  obtain ⟨hx, hb, hml, hown, hts, hE, hin, hM, hs0⟩ := X
  obtain ⟨n0, hd, hn0⟩ := zf_spec hz
  have hn0 := hn0.resolve_left (fun q => by cases q)
  subst hn0
  simp only [zo] at ho
  split at ho
  · obtain rfl := zgo_inj ho; exact lv_ineg hx hb hd (kk _ _ _ hH hS hl hL)
  · cases ho
theorem zs_lneg  (X : zX p s m args meth c base fa D aC ro L0 M) (hz : zf M pc = some (.lneg)) {k : zK} (ho : zo ro M pc ls st h uc us (.lneg) = some k) (hH : zH base fa D aC h H) (hS : va_S (fun q => base ≤ q) s.heap H locs) (hl : lv_has A (zN M) (zlm base fa ls)) (hL : h.length = L0 + uc) (kk : zKK p l e s m args below meth c base fa D aC Q L0 M k) : W p l e (zrm M) s m args below meth c H locs uc us Q (F0 m pc A (st.map (zsh base fa))) := by
  obtain ⟨hx, hb, hml, hown, hts, hE, hin, hM, hs0⟩ := X
  obtain ⟨n0, hd, hn0⟩ := zf_spec hz
  have hn0 := hn0.resolve_left (fun q => by cases q)
  subst hn0
  simp only [zo] at ho
  split at ho
  · obtain rfl := zgo_inj ho; exact lv_lneg hx hb hd (kk _ _ _ hH hS hl hL)
  · cases ho
theorem zs_idiv  (X : zX p s m args meth c base fa D aC ro L0 M) (hz : zf M pc = some (.idiv)) {k : zK} (ho : zo ro M pc ls st h uc us (.idiv) = some k) (hH : zH base fa D aC h H) (hS : va_S (fun q => base ≤ q) s.heap H locs) (hl : lv_has A (zN M) (zlm base fa ls)) (hL : h.length = L0 + uc) (kk : zKK p l e s m args below meth c base fa D aC Q L0 M k) : W p l e (zrm M) s m args below meth c H locs uc us Q (F0 m pc A (st.map (zsh base fa))) := by
  obtain ⟨hx, hb, hml, hown, hts, hE, hin, hM, hs0⟩ := X
  obtain ⟨n0, hd, hn0⟩ := zf_spec hz
  have hn0 := hn0.resolve_left (fun q => by cases q)
  subst hn0
  simp only [zo] at ho
  split at ho
  · split at ho
    · cases ho
    · next hy => obtain rfl := zgo_inj ho; exact lv_idiv hx hb hd hy (kk _ _ _ hH hS hl hL)
  · cases ho
theorem zs_irem  (X : zX p s m args meth c base fa D aC ro L0 M) (hz : zf M pc = some (.irem)) {k : zK} (ho : zo ro M pc ls st h uc us (.irem) = some k) (hH : zH base fa D aC h H) (hS : va_S (fun q => base ≤ q) s.heap H locs) (hl : lv_has A (zN M) (zlm base fa ls)) (hL : h.length = L0 + uc) (kk : zKK p l e s m args below meth c base fa D aC Q L0 M k) : W p l e (zrm M) s m args below meth c H locs uc us Q (F0 m pc A (st.map (zsh base fa))) := by
  obtain ⟨hx, hb, hml, hown, hts, hE, hin, hM, hs0⟩ := X
  obtain ⟨n0, hd, hn0⟩ := zf_spec hz
  have hn0 := hn0.resolve_left (fun q => by cases q)
  subst hn0
  simp only [zo] at ho
  split at ho
  · split at ho
    · cases ho
    · next hy => obtain rfl := zgo_inj ho; exact lv_irem hx hb hd hy (kk _ _ _ hH hS hl hL)
  · cases ho
theorem zs_ldiv  (X : zX p s m args meth c base fa D aC ro L0 M) (hz : zf M pc = some (.ldiv)) {k : zK} (ho : zo ro M pc ls st h uc us (.ldiv) = some k) (hH : zH base fa D aC h H) (hS : va_S (fun q => base ≤ q) s.heap H locs) (hl : lv_has A (zN M) (zlm base fa ls)) (hL : h.length = L0 + uc) (kk : zKK p l e s m args below meth c base fa D aC Q L0 M k) : W p l e (zrm M) s m args below meth c H locs uc us Q (F0 m pc A (st.map (zsh base fa))) := by
  obtain ⟨hx, hb, hml, hown, hts, hE, hin, hM, hs0⟩ := X
  obtain ⟨n0, hd, hn0⟩ := zf_spec hz
  have hn0 := hn0.resolve_left (fun q => by cases q)
  subst hn0
  simp only [zo] at ho
  split at ho
  · split at ho
    · cases ho
    · next hy => obtain rfl := zgo_inj ho; exact lv_ldiv hx hb hd hy (kk _ _ _ hH hS hl hL)
  · cases ho
theorem zs_lrem  (X : zX p s m args meth c base fa D aC ro L0 M) (hz : zf M pc = some (.lrem)) {k : zK} (ho : zo ro M pc ls st h uc us (.lrem) = some k) (hH : zH base fa D aC h H) (hS : va_S (fun q => base ≤ q) s.heap H locs) (hl : lv_has A (zN M) (zlm base fa ls)) (hL : h.length = L0 + uc) (kk : zKK p l e s m args below meth c base fa D aC Q L0 M k) : W p l e (zrm M) s m args below meth c H locs uc us Q (F0 m pc A (st.map (zsh base fa))) := by
  obtain ⟨hx, hb, hml, hown, hts, hE, hin, hM, hs0⟩ := X
  obtain ⟨n0, hd, hn0⟩ := zf_spec hz
  have hn0 := hn0.resolve_left (fun q => by cases q)
  subst hn0
  simp only [zo] at ho
  split at ho
  · split at ho
    · cases ho
    · next hy => obtain rfl := zgo_inj ho; exact lv_lrem hx hb hd hy (kk _ _ _ hH hS hl hL)
  · cases ho
theorem zs_lshl  (X : zX p s m args meth c base fa D aC ro L0 M) (hz : zf M pc = some (.lshl)) {k : zK} (ho : zo ro M pc ls st h uc us (.lshl) = some k) (hH : zH base fa D aC h H) (hS : va_S (fun q => base ≤ q) s.heap H locs) (hl : lv_has A (zN M) (zlm base fa ls)) (hL : h.length = L0 + uc) (kk : zKK p l e s m args below meth c base fa D aC Q L0 M k) : W p l e (zrm M) s m args below meth c H locs uc us Q (F0 m pc A (st.map (zsh base fa))) := by
  obtain ⟨hx, hb, hml, hown, hts, hE, hin, hM, hs0⟩ := X
  obtain ⟨n0, hd, hn0⟩ := zf_spec hz
  have hn0 := hn0.resolve_left (fun q => by cases q)
  subst hn0
  simp only [zo] at ho
  split at ho
  · obtain rfl := zgo_inj ho; exact lv_lshl hx hb hd rfl (kk _ _ _ hH hS hl hL)
  · cases ho
theorem zs_lcmp  (X : zX p s m args meth c base fa D aC ro L0 M) (hz : zf M pc = some (.lcmp)) {k : zK} (ho : zo ro M pc ls st h uc us (.lcmp) = some k) (hH : zH base fa D aC h H) (hS : va_S (fun q => base ≤ q) s.heap H locs) (hl : lv_has A (zN M) (zlm base fa ls)) (hL : h.length = L0 + uc) (kk : zKK p l e s m args below meth c base fa D aC Q L0 M k) : W p l e (zrm M) s m args below meth c H locs uc us Q (F0 m pc A (st.map (zsh base fa))) := by
  obtain ⟨hx, hb, hml, hown, hts, hE, hin, hM, hs0⟩ := X
  obtain ⟨n0, hd, hn0⟩ := zf_spec hz
  have hn0 := hn0.resolve_left (fun q => by cases q)
  subst hn0
  simp only [zo] at ho
  split at ho
  · obtain rfl := zgo_inj ho; exact W.lcmp hx hb hd (kk _ _ _ hH hS hl hL)
  · cases ho
theorem zs_i2l  (X : zX p s m args meth c base fa D aC ro L0 M) (hz : zf M pc = some (.i2l)) {k : zK} (ho : zo ro M pc ls st h uc us (.i2l) = some k) (hH : zH base fa D aC h H) (hS : va_S (fun q => base ≤ q) s.heap H locs) (hl : lv_has A (zN M) (zlm base fa ls)) (hL : h.length = L0 + uc) (kk : zKK p l e s m args below meth c base fa D aC Q L0 M k) : W p l e (zrm M) s m args below meth c H locs uc us Q (F0 m pc A (st.map (zsh base fa))) := by
  obtain ⟨hx, hb, hml, hown, hts, hE, hin, hM, hs0⟩ := X
  obtain ⟨n0, hd, hn0⟩ := zf_spec hz
  have hn0 := hn0.resolve_left (fun q => by cases q)
  subst hn0
  simp only [zo] at ho
  split at ho
  · obtain rfl := zgo_inj ho; exact lv_i2l hx hb hd rfl (kk _ _ _ hH hS hl hL)
  · cases ho
theorem zs_l2i  (X : zX p s m args meth c base fa D aC ro L0 M) (hz : zf M pc = some (.l2i)) {k : zK} (ho : zo ro M pc ls st h uc us (.l2i) = some k) (hH : zH base fa D aC h H) (hS : va_S (fun q => base ≤ q) s.heap H locs) (hl : lv_has A (zN M) (zlm base fa ls)) (hL : h.length = L0 + uc) (kk : zKK p l e s m args below meth c base fa D aC Q L0 M k) : W p l e (zrm M) s m args below meth c H locs uc us Q (F0 m pc A (st.map (zsh base fa))) := by
  obtain ⟨hx, hb, hml, hown, hts, hE, hin, hM, hs0⟩ := X
  obtain ⟨n0, hd, hn0⟩ := zf_spec hz
  have hn0 := hn0.resolve_left (fun q => by cases q)
  subst hn0
  simp only [zo] at ho
  split at ho
  · obtain rfl := zgo_inj ho; exact lv_l2i hx hb hd rfl (kk _ _ _ hH hS hl hL)
  · cases ho
theorem zs_dup  (X : zX p s m args meth c base fa D aC ro L0 M) (hz : zf M pc = some (.dup)) {k : zK} (ho : zo ro M pc ls st h uc us (.dup) = some k) (hH : zH base fa D aC h H) (hS : va_S (fun q => base ≤ q) s.heap H locs) (hl : lv_has A (zN M) (zlm base fa ls)) (hL : h.length = L0 + uc) (kk : zKK p l e s m args below meth c base fa D aC Q L0 M k) : W p l e (zrm M) s m args below meth c H locs uc us Q (F0 m pc A (st.map (zsh base fa))) := by
  obtain ⟨hx, hb, hml, hown, hts, hE, hin, hM, hs0⟩ := X
  obtain ⟨n0, hd, hn0⟩ := zf_spec hz
  have hn0 := hn0.resolve_left (fun q => by cases q)
  subst hn0
  simp only [zo] at ho
  split at ho
  · split at ho
    · next hc => obtain rfl := zgo_inj ho; exact lv_dup hx hb hd (by rw [zsh_cat]; exact hc) (kk _ _ _ hH hS hl hL)
    · cases ho
  · cases ho
theorem zs_pop  (X : zX p s m args meth c base fa D aC ro L0 M) (hz : zf M pc = some (.pop)) {k : zK} (ho : zo ro M pc ls st h uc us (.pop) = some k) (hH : zH base fa D aC h H) (hS : va_S (fun q => base ≤ q) s.heap H locs) (hl : lv_has A (zN M) (zlm base fa ls)) (hL : h.length = L0 + uc) (kk : zKK p l e s m args below meth c base fa D aC Q L0 M k) : W p l e (zrm M) s m args below meth c H locs uc us Q (F0 m pc A (st.map (zsh base fa))) := by
  obtain ⟨hx, hb, hml, hown, hts, hE, hin, hM, hs0⟩ := X
  obtain ⟨n0, hd, hn0⟩ := zf_spec hz
  have hn0 := hn0.resolve_left (fun q => by cases q)
  subst hn0
  simp only [zo] at ho
  split at ho
  · split at ho
    · next hc => obtain rfl := zgo_inj ho; exact lv_pop hx hb hd (by rw [zsh_cat]; exact hc) (kk _ _ _ hH hS hl hL)
    · cases ho
  · cases ho
theorem zs_dup2  (X : zX p s m args meth c base fa D aC ro L0 M) (hz : zf M pc = some (.dup2)) {k : zK} (ho : zo ro M pc ls st h uc us (.dup2) = some k) (hH : zH base fa D aC h H) (hS : va_S (fun q => base ≤ q) s.heap H locs) (hl : lv_has A (zN M) (zlm base fa ls)) (hL : h.length = L0 + uc) (kk : zKK p l e s m args below meth c base fa D aC Q L0 M k) : W p l e (zrm M) s m args below meth c H locs uc us Q (F0 m pc A (st.map (zsh base fa))) := by
  obtain ⟨hx, hb, hml, hown, hts, hE, hin, hM, hs0⟩ := X
  obtain ⟨n0, hd, hn0⟩ := zf_spec hz
  have hn0 := hn0.resolve_left (fun q => by cases q)
  subst hn0
  simp only [zo] at ho
  split at ho
  · split at ho
    · next hc => obtain rfl := zgo_inj ho; exact lv_dup2_11 hx hb hd (by rw [zsh_cat]; exact hc.1) (by rw [zsh_cat]; exact hc.2) (kk _ _ _ hH hS hl hL)
    · cases ho
  · cases ho
theorem zs_ifCond_eq {off : Int} (X : zX p s m args meth c base fa D aC ro L0 M) (hz : zf M pc = some (.ifCond .eq off)) {k : zK} (ho : zo ro M pc ls st h uc us (.ifCond .eq off) = some k) (hH : zH base fa D aC h H) (hS : va_S (fun q => base ≤ q) s.heap H locs) (hl : lv_has A (zN M) (zlm base fa ls)) (hL : h.length = L0 + uc) (kk : zKK p l e s m args below meth c base fa D aC Q L0 M k) : W p l e (zrm M) s m args below meth c H locs uc us Q (F0 m pc A (st.map (zsh base fa))) := by
  obtain ⟨hx, hb, hml, hown, hts, hE, hin, hM, hs0⟩ := X
  obtain ⟨n0, hd, hn0⟩ := zf_spec hz
  have hn0 := hn0.resolve_left (fun q => by cases q)
  subst hn0
  simp only [zo] at ho
  split at ho
  · obtain ⟨t, ht, rfl⟩ := zbr_inj ho; exact lv_if_eq hx hb hd ht (fun hc => by have h9 := kk H locs A hH hS hl hL; simp only [if_pos hc] at h9; exact h9) (fun hc => by have h9 := kk H locs A hH hS hl hL; simp only [if_neg hc] at h9; exact h9)
  · cases ho
theorem zs_ifCond_ne {off : Int} (X : zX p s m args meth c base fa D aC ro L0 M) (hz : zf M pc = some (.ifCond .ne off)) {k : zK} (ho : zo ro M pc ls st h uc us (.ifCond .ne off) = some k) (hH : zH base fa D aC h H) (hS : va_S (fun q => base ≤ q) s.heap H locs) (hl : lv_has A (zN M) (zlm base fa ls)) (hL : h.length = L0 + uc) (kk : zKK p l e s m args below meth c base fa D aC Q L0 M k) : W p l e (zrm M) s m args below meth c H locs uc us Q (F0 m pc A (st.map (zsh base fa))) := by
  obtain ⟨hx, hb, hml, hown, hts, hE, hin, hM, hs0⟩ := X
  obtain ⟨n0, hd, hn0⟩ := zf_spec hz
  have hn0 := hn0.resolve_left (fun q => by cases q)
  subst hn0
  simp only [zo] at ho
  split at ho
  · obtain ⟨t, ht, rfl⟩ := zbr_inj ho; exact lv_if_ne hx hb hd ht (fun hc => by have h9 := kk H locs A hH hS hl hL; simp only [if_pos hc] at h9; exact h9) (fun hc => by have h9 := kk H locs A hH hS hl hL; simp only [if_neg (show ¬ ¬ _ from fun q => q hc)] at h9; exact h9)
  · cases ho
theorem zs_ifCond_lt {off : Int} (X : zX p s m args meth c base fa D aC ro L0 M) (hz : zf M pc = some (.ifCond .lt off)) {k : zK} (ho : zo ro M pc ls st h uc us (.ifCond .lt off) = some k) (hH : zH base fa D aC h H) (hS : va_S (fun q => base ≤ q) s.heap H locs) (hl : lv_has A (zN M) (zlm base fa ls)) (hL : h.length = L0 + uc) (kk : zKK p l e s m args below meth c base fa D aC Q L0 M k) : W p l e (zrm M) s m args below meth c H locs uc us Q (F0 m pc A (st.map (zsh base fa))) := by
  obtain ⟨hx, hb, hml, hown, hts, hE, hin, hM, hs0⟩ := X
  obtain ⟨n0, hd, hn0⟩ := zf_spec hz
  have hn0 := hn0.resolve_left (fun q => by cases q)
  subst hn0
  simp only [zo] at ho
  split at ho
  · obtain ⟨t, ht, rfl⟩ := zbr_inj ho; exact lv_if_lt hx hb hd ht (fun hc => by have h9 := kk H locs A hH hS hl hL; simp only [if_pos hc] at h9; exact h9) (fun hc => by have h9 := kk H locs A hH hS hl hL; simp only [if_neg hc] at h9; exact h9)
  · cases ho
theorem zs_ifCond_ge {off : Int} (X : zX p s m args meth c base fa D aC ro L0 M) (hz : zf M pc = some (.ifCond .ge off)) {k : zK} (ho : zo ro M pc ls st h uc us (.ifCond .ge off) = some k) (hH : zH base fa D aC h H) (hS : va_S (fun q => base ≤ q) s.heap H locs) (hl : lv_has A (zN M) (zlm base fa ls)) (hL : h.length = L0 + uc) (kk : zKK p l e s m args below meth c base fa D aC Q L0 M k) : W p l e (zrm M) s m args below meth c H locs uc us Q (F0 m pc A (st.map (zsh base fa))) := by
  obtain ⟨hx, hb, hml, hown, hts, hE, hin, hM, hs0⟩ := X
  obtain ⟨n0, hd, hn0⟩ := zf_spec hz
  have hn0 := hn0.resolve_left (fun q => by cases q)
  subst hn0
  simp only [zo] at ho
  split at ho
  · obtain ⟨t, ht, rfl⟩ := zbr_inj ho; exact lv_if_ge hx hb hd ht (fun hc => by have h9 := kk H locs A hH hS hl hL; simp only [if_pos hc] at h9; exact h9) (fun hc => by have h9 := kk H locs A hH hS hl hL; simp only [if_neg hc] at h9; exact h9)
  · cases ho
theorem zs_ifCond_gt {off : Int} (X : zX p s m args meth c base fa D aC ro L0 M) (hz : zf M pc = some (.ifCond .gt off)) {k : zK} (ho : zo ro M pc ls st h uc us (.ifCond .gt off) = some k) (hH : zH base fa D aC h H) (hS : va_S (fun q => base ≤ q) s.heap H locs) (hl : lv_has A (zN M) (zlm base fa ls)) (hL : h.length = L0 + uc) (kk : zKK p l e s m args below meth c base fa D aC Q L0 M k) : W p l e (zrm M) s m args below meth c H locs uc us Q (F0 m pc A (st.map (zsh base fa))) := by
  obtain ⟨hx, hb, hml, hown, hts, hE, hin, hM, hs0⟩ := X
  obtain ⟨n0, hd, hn0⟩ := zf_spec hz
  have hn0 := hn0.resolve_left (fun q => by cases q)
  subst hn0
  simp only [zo] at ho
  split at ho
  · obtain ⟨t, ht, rfl⟩ := zbr_inj ho; exact lv_if_gt hx hb hd ht (fun hc => by have h9 := kk H locs A hH hS hl hL; simp only [if_pos hc] at h9; exact h9) (fun hc => by have h9 := kk H locs A hH hS hl hL; simp only [if_neg hc] at h9; exact h9)
  · cases ho
theorem zs_ifCond_le {off : Int} (X : zX p s m args meth c base fa D aC ro L0 M) (hz : zf M pc = some (.ifCond .le off)) {k : zK} (ho : zo ro M pc ls st h uc us (.ifCond .le off) = some k) (hH : zH base fa D aC h H) (hS : va_S (fun q => base ≤ q) s.heap H locs) (hl : lv_has A (zN M) (zlm base fa ls)) (hL : h.length = L0 + uc) (kk : zKK p l e s m args below meth c base fa D aC Q L0 M k) : W p l e (zrm M) s m args below meth c H locs uc us Q (F0 m pc A (st.map (zsh base fa))) := by
  obtain ⟨hx, hb, hml, hown, hts, hE, hin, hM, hs0⟩ := X
  obtain ⟨n0, hd, hn0⟩ := zf_spec hz
  have hn0 := hn0.resolve_left (fun q => by cases q)
  subst hn0
  simp only [zo] at ho
  split at ho
  · obtain ⟨t, ht, rfl⟩ := zbr_inj ho; exact lv_if_le hx hb hd ht (fun hc => by have h9 := kk H locs A hH hS hl hL; simp only [if_pos hc] at h9; exact h9) (fun hc => by have h9 := kk H locs A hH hS hl hL; simp only [if_neg hc] at h9; exact h9)
  · cases ho
theorem zs_if_icmp_eq {off : Int} (X : zX p s m args meth c base fa D aC ro L0 M) (hz : zf M pc = some (.if_icmp .eq off)) {k : zK} (ho : zo ro M pc ls st h uc us (.if_icmp .eq off) = some k) (hH : zH base fa D aC h H) (hS : va_S (fun q => base ≤ q) s.heap H locs) (hl : lv_has A (zN M) (zlm base fa ls)) (hL : h.length = L0 + uc) (kk : zKK p l e s m args below meth c base fa D aC Q L0 M k) : W p l e (zrm M) s m args below meth c H locs uc us Q (F0 m pc A (st.map (zsh base fa))) := by
  obtain ⟨hx, hb, hml, hown, hts, hE, hin, hM, hs0⟩ := X
  obtain ⟨n0, hd, hn0⟩ := zf_spec hz
  have hn0 := hn0.resolve_left (fun q => by cases q)
  subst hn0
  simp only [zo] at ho
  split at ho
  · obtain ⟨t, ht, rfl⟩ := zbr_inj ho; exact lv_icmp_eq hx hb hd ht (fun hc => by have h9 := kk H locs A hH hS hl hL; simp only [if_pos hc] at h9; exact h9) (fun hc => by have h9 := kk H locs A hH hS hl hL; simp only [if_neg hc] at h9; exact h9)
  · cases ho
theorem zs_if_icmp_ne {off : Int} (X : zX p s m args meth c base fa D aC ro L0 M) (hz : zf M pc = some (.if_icmp .ne off)) {k : zK} (ho : zo ro M pc ls st h uc us (.if_icmp .ne off) = some k) (hH : zH base fa D aC h H) (hS : va_S (fun q => base ≤ q) s.heap H locs) (hl : lv_has A (zN M) (zlm base fa ls)) (hL : h.length = L0 + uc) (kk : zKK p l e s m args below meth c base fa D aC Q L0 M k) : W p l e (zrm M) s m args below meth c H locs uc us Q (F0 m pc A (st.map (zsh base fa))) := by
  obtain ⟨hx, hb, hml, hown, hts, hE, hin, hM, hs0⟩ := X
  obtain ⟨n0, hd, hn0⟩ := zf_spec hz
  have hn0 := hn0.resolve_left (fun q => by cases q)
  subst hn0
  simp only [zo] at ho
  split at ho
  · obtain ⟨t, ht, rfl⟩ := zbr_inj ho; exact lv_icmp_ne hx hb hd ht (fun hc => by have h9 := kk H locs A hH hS hl hL; simp only [if_pos hc] at h9; exact h9) (fun hc => by have h9 := kk H locs A hH hS hl hL; simp only [if_neg (show ¬ ¬ _ from fun q => q hc)] at h9; exact h9)
  · cases ho
theorem zs_if_icmp_lt {off : Int} (X : zX p s m args meth c base fa D aC ro L0 M) (hz : zf M pc = some (.if_icmp .lt off)) {k : zK} (ho : zo ro M pc ls st h uc us (.if_icmp .lt off) = some k) (hH : zH base fa D aC h H) (hS : va_S (fun q => base ≤ q) s.heap H locs) (hl : lv_has A (zN M) (zlm base fa ls)) (hL : h.length = L0 + uc) (kk : zKK p l e s m args below meth c base fa D aC Q L0 M k) : W p l e (zrm M) s m args below meth c H locs uc us Q (F0 m pc A (st.map (zsh base fa))) := by
  obtain ⟨hx, hb, hml, hown, hts, hE, hin, hM, hs0⟩ := X
  obtain ⟨n0, hd, hn0⟩ := zf_spec hz
  have hn0 := hn0.resolve_left (fun q => by cases q)
  subst hn0
  simp only [zo] at ho
  split at ho
  · obtain ⟨t, ht, rfl⟩ := zbr_inj ho; exact lv_icmp_lt hx hb hd ht (fun hc => by have h9 := kk H locs A hH hS hl hL; simp only [if_pos hc] at h9; exact h9) (fun hc => by have h9 := kk H locs A hH hS hl hL; simp only [if_neg hc] at h9; exact h9)
  · cases ho
theorem zs_if_icmp_ge {off : Int} (X : zX p s m args meth c base fa D aC ro L0 M) (hz : zf M pc = some (.if_icmp .ge off)) {k : zK} (ho : zo ro M pc ls st h uc us (.if_icmp .ge off) = some k) (hH : zH base fa D aC h H) (hS : va_S (fun q => base ≤ q) s.heap H locs) (hl : lv_has A (zN M) (zlm base fa ls)) (hL : h.length = L0 + uc) (kk : zKK p l e s m args below meth c base fa D aC Q L0 M k) : W p l e (zrm M) s m args below meth c H locs uc us Q (F0 m pc A (st.map (zsh base fa))) := by
  obtain ⟨hx, hb, hml, hown, hts, hE, hin, hM, hs0⟩ := X
  obtain ⟨n0, hd, hn0⟩ := zf_spec hz
  have hn0 := hn0.resolve_left (fun q => by cases q)
  subst hn0
  simp only [zo] at ho
  split at ho
  · obtain ⟨t, ht, rfl⟩ := zbr_inj ho; exact lv_icmp_ge hx hb hd ht (fun hc => by have h9 := kk H locs A hH hS hl hL; simp only [if_pos hc] at h9; exact h9) (fun hc => by have h9 := kk H locs A hH hS hl hL; simp only [if_neg hc] at h9; exact h9)
  · cases ho
theorem zs_if_icmp_gt {off : Int} (X : zX p s m args meth c base fa D aC ro L0 M) (hz : zf M pc = some (.if_icmp .gt off)) {k : zK} (ho : zo ro M pc ls st h uc us (.if_icmp .gt off) = some k) (hH : zH base fa D aC h H) (hS : va_S (fun q => base ≤ q) s.heap H locs) (hl : lv_has A (zN M) (zlm base fa ls)) (hL : h.length = L0 + uc) (kk : zKK p l e s m args below meth c base fa D aC Q L0 M k) : W p l e (zrm M) s m args below meth c H locs uc us Q (F0 m pc A (st.map (zsh base fa))) := by
  obtain ⟨hx, hb, hml, hown, hts, hE, hin, hM, hs0⟩ := X
  obtain ⟨n0, hd, hn0⟩ := zf_spec hz
  have hn0 := hn0.resolve_left (fun q => by cases q)
  subst hn0
  simp only [zo] at ho
  split at ho
  · obtain ⟨t, ht, rfl⟩ := zbr_inj ho; exact lv_icmp_gt hx hb hd ht (fun hc => by have h9 := kk H locs A hH hS hl hL; simp only [if_pos hc] at h9; exact h9) (fun hc => by have h9 := kk H locs A hH hS hl hL; simp only [if_neg hc] at h9; exact h9)
  · cases ho
theorem zs_if_icmp_le {off : Int} (X : zX p s m args meth c base fa D aC ro L0 M) (hz : zf M pc = some (.if_icmp .le off)) {k : zK} (ho : zo ro M pc ls st h uc us (.if_icmp .le off) = some k) (hH : zH base fa D aC h H) (hS : va_S (fun q => base ≤ q) s.heap H locs) (hl : lv_has A (zN M) (zlm base fa ls)) (hL : h.length = L0 + uc) (kk : zKK p l e s m args below meth c base fa D aC Q L0 M k) : W p l e (zrm M) s m args below meth c H locs uc us Q (F0 m pc A (st.map (zsh base fa))) := by
  obtain ⟨hx, hb, hml, hown, hts, hE, hin, hM, hs0⟩ := X
  obtain ⟨n0, hd, hn0⟩ := zf_spec hz
  have hn0 := hn0.resolve_left (fun q => by cases q)
  subst hn0
  simp only [zo] at ho
  split at ho
  · obtain ⟨t, ht, rfl⟩ := zbr_inj ho; exact lv_icmp_le hx hb hd ht (fun hc => by have h9 := kk H locs A hH hS hl hL; simp only [if_pos hc] at h9; exact h9) (fun hc => by have h9 := kk H locs A hH hS hl hL; simp only [if_neg hc] at h9; exact h9)
  · cases ho
theorem zs_ifnonnull {off : Int} (X : zX p s m args meth c base fa D aC ro L0 M) (hz : zf M pc = some (.ifnonnull off)) {k : zK} (ho : zo ro M pc ls st h uc us (.ifnonnull off) = some k) (hH : zH base fa D aC h H) (hS : va_S (fun q => base ≤ q) s.heap H locs) (hl : lv_has A (zN M) (zlm base fa ls)) (hL : h.length = L0 + uc) (kk : zKK p l e s m args below meth c base fa D aC Q L0 M k) : W p l e (zrm M) s m args below meth c H locs uc us Q (F0 m pc A (st.map (zsh base fa))) := by
  obtain ⟨hx, hb, hml, hown, hts, hE, hin, hM, hs0⟩ := X
  obtain ⟨n0, hd, hn0⟩ := zf_spec hz
  have hn0 := hn0.resolve_left (fun q => by cases q)
  subst hn0
  simp only [zo] at ho
  split at ho
  · obtain ⟨t, ht, rfl⟩ := zju_inj ho; exact lv_ifnonnull hx hb hd ht (kk _ _ _ hH hS hl hL)
  · cases ho
theorem zs_goto {off : Int} (X : zX p s m args meth c base fa D aC ro L0 M) (hz : zf M pc = some (.goto off)) {k : zK} (ho : zo ro M pc ls st h uc us (.goto off) = some k) (hH : zH base fa D aC h H) (hS : va_S (fun q => base ≤ q) s.heap H locs) (hl : lv_has A (zN M) (zlm base fa ls)) (hL : h.length = L0 + uc) (kk : zKK p l e s m args below meth c base fa D aC Q L0 M k) : W p l e (zrm M) s m args below meth c H locs uc us Q (F0 m pc A (st.map (zsh base fa))) := by
  obtain ⟨hx, hb, hml, hown, hts, hE, hin, hM, hs0⟩ := X
  obtain ⟨n0, hd, hn0⟩ := zf_spec hz
  have hn0 := hn0.resolve_left (fun q => by cases q)
  subst hn0
  simp only [zo] at ho
  obtain ⟨t, ht, rfl⟩ := zju_inj ho
  exact lv_goto hx hb hd ht (kk _ _ _ hH hS hl hL)
theorem zs_tableswitch {d lo hi : Int} {offs : Array Int} (X : zX p s m args meth c base fa D aC ro L0 M) (hz : zf M pc = some (.tableswitch d lo hi offs)) {k : zK} (ho : zo ro M pc ls st h uc us (.tableswitch d lo hi offs) = some k) (hH : zH base fa D aC h H) (hS : va_S (fun q => base ≤ q) s.heap H locs) (hl : lv_has A (zN M) (zlm base fa ls)) (hL : h.length = L0 + uc) (kk : zKK p l e s m args below meth c base fa D aC Q L0 M k) : W p l e (zrm M) s m args below meth c H locs uc us Q (F0 m pc A (st.map (zsh base fa))) := by
  obtain ⟨hx, hb, hml, hown, hts, hE, hin, hM, hs0⟩ := X
  obtain ⟨n0, hd, hn0⟩ := zf_spec hz
  simp only [zo] at ho
  split at ho
  · split at ho
    · next hc => obtain ⟨t, ht, rfl⟩ := zju_inj ho; exact lv_tableOut hx hb hd hc ht (kk _ _ _ hH hS hl hL)
    · next hc =>
      split at ho
      · next off hoff => obtain ⟨t, ht, rfl⟩ := zju_inj ho; exact lv_tableIn hx hb hd (fun q => hc (Or.inl q)) (fun q => hc (Or.inr q)) hoff ht (kk _ _ _ hH hS hl hL)
      · cases ho
  · cases ho
theorem zs_lookupswitch {d : Int} {ps : Array (Int × Int)} (X : zX p s m args meth c base fa D aC ro L0 M) (hz : zf M pc = some (.lookupswitch d ps)) {k : zK} (ho : zo ro M pc ls st h uc us (.lookupswitch d ps) = some k) (hH : zH base fa D aC h H) (hS : va_S (fun q => base ≤ q) s.heap H locs) (hl : lv_has A (zN M) (zlm base fa ls)) (hL : h.length = L0 + uc) (kk : zKK p l e s m args below meth c base fa D aC Q L0 M k) : W p l e (zrm M) s m args below meth c H locs uc us Q (F0 m pc A (st.map (zsh base fa))) := by
  obtain ⟨hx, hb, hml, hown, hts, hE, hin, hM, hs0⟩ := X
  obtain ⟨n0, hd, hn0⟩ := zf_spec hz
  simp only [zo] at ho
  split at ho
  · split at ho
    · next hc => obtain ⟨t, ht, rfl⟩ := zju_inj ho; exact lv_lookup hx hb hd hc rfl ht (kk _ _ _ hH hS hl hL)
    · cases ho
  · cases ho
theorem zs_ldc {n : Nat} (X : zX p s m args meth c base fa D aC ro L0 M) (hz : zf M pc = some (.ldc n)) {k : zK} (ho : zo ro M pc ls st h uc us (.ldc n) = some k) (hH : zH base fa D aC h H) (hS : va_S (fun q => base ≤ q) s.heap H locs) (hl : lv_has A (zN M) (zlm base fa ls)) (hL : h.length = L0 + uc) (kk : zKK p l e s m args below meth c base fa D aC Q L0 M k) : W p l e (zrm M) s m args below meth c H locs uc us Q (F0 m pc A (st.map (zsh base fa))) := by
  obtain ⟨hx, hb, hml, hown, hts, hE, hin, hM, hs0⟩ := X
  obtain ⟨n0, hd, hn0⟩ := zf_spec hz
  have hn0 := hn0.resolve_left (fun q => by cases q)
  subst hn0
  simp only [zo] at ho
  split at ho
  · next v hv =>
    obtain rfl := zgo_inj ho
    unfold zki at hv
    obtain ⟨q, hq, hqv⟩ := Option.map_eq_some_iff.mp hv
    have hq1 := List.find?_some hq
    simp only [Bool.and_eq_true, beq_iff_eq] at hq1
    have hq2 := zkI_ok q (List.mem_of_find?_eq_some hq)
    rw [hq1.1, hq1.2, hqv, ← (zown_at M hM).1] at hq2
    exact lv_ldc hx hb hown (hts _ (zwt_mem hq2 rfl)) hd (kk _ _ _ hH hS hl hL)
  · cases ho
theorem zs_ldc2_w {n : Nat} (X : zX p s m args meth c base fa D aC ro L0 M) (hz : zf M pc = some (.ldc2_w n)) {k : zK} (ho : zo ro M pc ls st h uc us (.ldc2_w n) = some k) (hH : zH base fa D aC h H) (hS : va_S (fun q => base ≤ q) s.heap H locs) (hl : lv_has A (zN M) (zlm base fa ls)) (hL : h.length = L0 + uc) (kk : zKK p l e s m args below meth c base fa D aC Q L0 M k) : W p l e (zrm M) s m args below meth c H locs uc us Q (F0 m pc A (st.map (zsh base fa))) := by
  obtain ⟨hx, hb, hml, hown, hts, hE, hin, hM, hs0⟩ := X
  obtain ⟨n0, hd, hn0⟩ := zf_spec hz
  have hn0 := hn0.resolve_left (fun q => by cases q)
  subst hn0
  simp only [zo] at ho
  split at ho
  · next v hv =>
    obtain rfl := zgo_inj ho
    unfold zkl at hv
    obtain ⟨q, hq, hqv⟩ := Option.map_eq_some_iff.mp hv
    have hq1 := List.find?_some hq
    simp only [Bool.and_eq_true, beq_iff_eq] at hq1
    have hq2 := zkL_ok q (List.mem_of_find?_eq_some hq)
    rw [hq1.1, hq1.2, hqv, ← (zown_at M hM).1] at hq2
    exact lv_ldc2 hx hb hown (hts _ (zwt_mem hq2 rfl)) hd (kk _ _ _ hH hS hl hL)
  · cases ho
end ZST
end
section
section ZSH
variable {p : Program} {l : Launch} {e : Env} {s : State} {m : MethodId} {args : Array Value} {below : List Frame} {meth : Method} {c : Code} {base : Nat} {fa : UInt32 → Nat} {D : va_G} {aC : Nat → ClassId} {ro : UInt32 → Nat × (Nat → Int32)} {Q : State → Prop} {L0 M pc : Nat} {ls : List (Nat × Value)} {st : List Value} {h : List va_E} {uc us : Nat} {H : Heap} {locs : List Loc} {A : Array Slot}
theorem zH.set {k : Nat} {e1 : va_E} {H1 : Heap} (hP : va_P D vwCl ((zwl base fa aC h).set k (base + k, zce base fa aC e1)) H1) : zH base fa D aC (h.set k e1) H1 := by
  unfold zH
  rw [← zwl_set]
  exact hP
/-- the heap's size is known where a method makes just the cells that it counts -/
theorem zsize {T : State} {R : Room} {ws0 : List Frame} (hT : T.heap = H) (X : Stand p l e R s m args below meth c T locs uc us) (hs0 : s.heap.size = base + L0) (hL : h.length = L0 + uc) (hH : zH base fa D aC h H) (hS : va_S (fun q => base ≤ q) s.heap H locs) : H.size = base + h.length := by
  have h1 := X.heapSize
  rw [hT] at h1
  have h2 := hS.1
  by_cases hz : h.length = 0
  · omega
  · have h3 : (zwl base fa aC h)[h.length - 1]? = some (base + (h.length - 1), zce base fa aC h[h.length - 1]) := by rw [zwl_get, List.getElem?_eq_getElem (by omega)]; rfl
    have h4 := (hH _ _ h3).lt
    simp only at h4
    omega
theorem zWsz {R : Room} {g : JFrame} (hs0 : s.heap.size = base + L0) (hL : h.length = L0 + uc) (hH : zH base fa D aC h H) (hS : va_S (fun q => base ≤ q) s.heap H locs) (kk : H.size = base + h.length → W p l e R s m args below meth c H locs uc us Q g) : W p l e R s m args below meth c H locs uc us Q g := fun T hT X => kk (zsize (ws0 := []) hT X hs0 hL hH hS) T hT X
theorem zcl_lt {ci : Nat} {q : vw_C} (h : vwCl[ci]? = some q) : ci < 13 := by
  have := (List.getElem?_eq_some_iff.mp h).1
  simpa [vwCl] using this
theorem zuw {ci : Nat} {q : vw_C} (h : vwCl[ci]? = some q) : ∀ w ∈ u_ws q.1 q.2.1 q.2.2, w ∈ zwt := zuw0 ci (zcl_lt h) q h
theorem zty_ok {ci : Nat} {q : vw_C} (h : vwCl[ci]? = some q) : ∀ k, k < q.2.2 → parseFieldDescriptor (q.2.1 k).2.2.1 = some (zty ci k) := by
  have hl := zcl_lt h
  match ci, hl with
  | 0, _ => cases h; exact tyX0_ok
  | 1, _ => cases h; exact tyX1_ok
  | 2, _ => cases h; exact tyX2_ok
  | 3, _ => cases h; exact tyX3_ok
  | 4, _ => cases h; exact tyX4_ok
  | 5, _ => cases h; exact tyX5_ok
  | 6, _ => cases h; exact tyX6_ok
  | 7, _ => cases h; exact tyX7_ok
  | 8, _ => cases h; exact tyX8_ok
  | 9, _ => cases h; exact tyX9_ok
  | 10, _ => cases h; exact tyX10_ok
  | 11, _ => cases h; exact tyX11_ok
  | 12, _ => cases h; exact tyX12_ok
theorem znm_ok {ci : Nat} {q : vw_C} (h : vwCl[ci]? = some q) : ∀ a, a < q.2.2 → ∀ b, b < q.2.2 → a ≠ b → (q.2.1 a).2.1 ≠ (q.2.1 b).2.1 := by
  have hl := zcl_lt h
  match ci, hl with
  | 0, _ => cases h; exact nmX0
  | 1, _ => cases h; exact nmX1
  | 2, _ => cases h; exact nmX2
  | 3, _ => cases h; exact nmX3
  | 4, _ => cases h; exact nmX4
  | 5, _ => cases h; exact nmX5
  | 6, _ => cases h; exact nmX6
  | 7, _ => cases h; exact nmX7
  | 8, _ => cases h; exact nmX8
  | 9, _ => cases h; exact nmX9
  | 10, _ => cases h; exact nmX10
  | 11, _ => cases h; exact nmX11
  | 12, _ => cases h; exact nmX12
theorem zdf_ok {ci : Nat} {q : vw_C} (h : vwCl[ci]? = some q) : znf ci = q.2.2 ∧ (zdf ci).map (zsh base fa) = zdf ci ∧ ∀ j, j < q.2.2 → defaultValue (zty ci j) = vp_V (zdf ci) j := by
  have hn : znf ci = q.2.2 := by unfold znf; rw [h]
  refine ⟨hn, ?_, fun j hj => ?_⟩
  · have hl := zcl_lt h
    match ci, hl with
    | 0, _ => rfl
    | 1, _ => rfl
    | 2, _ => rfl
    | 3, _ => rfl
    | 4, _ => rfl
    | 5, _ => rfl
    | 6, _ => rfl
    | 7, _ => rfl
    | 8, _ => rfl
    | 9, _ => rfl
    | 10, _ => rfl
    | 11, _ => rfl
    | 12, _ => rfl
  · unfold zdf vp_V
    rw [hn, List.getD_eq_getElem?_getD, List.getElem?_map, List.getElem?_range hj]
    rfl
theorem zfd_ok {idx ci j : Nat} (hM : M < 190) (hts : ∀ w ∈ zwt, w.before args s = true) (hv : zfd (zoc M) idx ci = some j) : ∃ q ref, vwCl[ci]? = some q ∧ j < q.2.2 ∧ (Cond.fieldLink (zy M).cls idx ref (q.2.1 j).2.1 (q.2.1 j).2.2.1).before args s = true ∧ ∀ x, s.fieldFound? (q.2.1 j).1 (q.2.1 j).2.1 (q.2.1 j).2.2.1 = some x → s.fieldFound? ref (q.2.1 j).2.1 (q.2.1 j).2.2.1 = some x := by
  unfold zfd at hv
  obtain ⟨q, hq, hqv⟩ := Option.map_eq_some_iff.mp hv
  have hq1 := List.find?_some hq
  simp only [Bool.and_eq_true, beq_iff_eq] at hq1
  have hq2 := zfp_ok q (List.mem_of_find?_eq_some hq)
  obtain ⟨o, idx', ci', j', p1, p2, ref⟩ := q
  simp only at hq1 hqv
  obtain ⟨rfl, rfl, rfl⟩ := hq1
  subst hqv
  unfold zfok at hq2
  simp only at hq2
  split at hq2
  · cases hq2
  · next r hr =>
    simp only [Bool.and_eq_true, Bool.or_eq_true, decide_eq_true_eq] at hq2
    obtain ⟨⟨h1, h2⟩, h3⟩ := hq2
    refine ⟨r, ref, hr, h1, ?_, ?_⟩
    · rw [(zown_at M hM).1]
      exact hts _ (zwt_mem h2 rfl)
    · intro x hx
      rcases h3 with h3 | h3
      · rw [h3]; exact hx
      · exact u_same (hts _ (zwt_mem h3 rfl)) x hx
theorem zcl_ok {idx ci : Nat} (hM : M < 190) (hts : ∀ w ∈ zwt, w.before args s = true) (hv : zcl (zoc M) idx = some ci) : ∃ q, vwCl[ci]? = some q ∧ (Cond.classLink (zy M).cls idx q.1).before args s = true ∧ (Cond.instantiable q.1 q.2.2).before args s = true ∧ (Cond.initialized q.1).before args s = true := by
  unfold zcl at hv
  obtain ⟨q, hq, hqv⟩ := Option.map_eq_some_iff.mp hv
  have hq1 := List.find?_some hq
  simp only [Bool.and_eq_true, beq_iff_eq] at hq1
  have hq2 := zcn_ok q (List.mem_of_find?_eq_some hq)
  unfold zcnok at hq2
  rw [hqv] at hq2
  split at hq2
  · cases hq2
  · next r hr =>
    simp only [Bool.and_eq_true, decide_eq_true_eq] at hq2
    obtain ⟨⟨h1, h2⟩, h3⟩ := hq2
    rw [hq1.1, hq1.2, ← (zown_at M hM).1] at h1
    exact ⟨r, hr, hts _ (zwt_mem h1 rfl), hts _ (zwt_mem h2 rfl), hts _ (zwt_mem h3 rfl)⟩
theorem zw_i : Cond.arrayClass .int ∈ zwt := zwt_mem (i := 146) (by decide +kernel) rfl
theorem zw_l : Cond.arrayClass .long ∈ zwt := zwt_mem (i := 213) (by decide +kernel) rfl
theorem zw_z : Cond.arrayClass .boolean ∈ zwt := zwt_mem (i := 1086) (by decide +kernel) rfl
theorem zw_k : Cond.fieldLink RX11 333 "HeronsBench" "KIND_ABOVE" "[I" ∈ zwt := zwt_mem (i := 896) (by decide +kernel) rfl
set_option maxHeartbeats 1000000 in
theorem zs_getfield {n : Nat} (X : zX p s m args meth c base fa D aC ro L0 M) (hz : zf M pc = some (.getfield n)) {k : zK} (ho : zo ro M pc ls st h uc us (.getfield n) = some k) (hH : zH base fa D aC h H) (hS : va_S (fun q => base ≤ q) s.heap H locs) (hl : lv_has A (zN M) (zlm base fa ls)) (hL : h.length = L0 + uc) (kk : zKK p l e s m args below meth c base fa D aC Q L0 M k) : W p l e (zrm M) s m args below meth c H locs uc us Q (F0 m pc A (st.map (zsh base fa))) := by
  obtain ⟨hx, hb, hml, hown, hts, hE, hin, hM, hs0⟩ := X
  obtain ⟨n0, hd, hn0⟩ := zf_spec hz
  have hn0 := hn0.resolve_left (fun q => by cases q)
  subst hn0
  simp only [zo] at ho
  split at ho
  · next k st' =>
    split at ho
    · next ci fs hk =>
      split at ho
      · next j hj =>
        split at ho
        · next v hv =>
          obtain rfl := zgo_inj ho
          obtain ⟨q, ref, hq, hjl, hlink, hsame⟩ := zfd_ok hM hts hj
          exact va_get (C := q.1) (T := q.2.1) (N := q.2.2) hx hb hts (zuw hq) hown hE.1 hH k (zwl_at hk) hq j hjl hlink hsame (by rw [List.getElem?_map, hv]; rfl) hd (kk _ _ _ hH hS hl hL)
        · cases ho
      · cases ho
    · cases ho
  · cases ho
set_option maxHeartbeats 1000000 in
theorem zs_putfield {n : Nat} (X : zX p s m args meth c base fa D aC ro L0 M) (hz : zf M pc = some (.putfield n)) {k : zK} (ho : zo ro M pc ls st h uc us (.putfield n) = some k) (hH : zH base fa D aC h H) (hS : va_S (fun q => base ≤ q) s.heap H locs) (hl : lv_has A (zN M) (zlm base fa ls)) (hL : h.length = L0 + uc) (kk : zKK p l e s m args below meth c base fa D aC Q L0 M k) : W p l e (zrm M) s m args below meth c H locs uc us Q (F0 m pc A (st.map (zsh base fa))) := by
  obtain ⟨hx, hb, hml, hown, hts, hE, hin, hM, hs0⟩ := X
  obtain ⟨n0, hd, hn0⟩ := zf_spec hz
  have hn0 := hn0.resolve_left (fun q => by cases q)
  subst hn0
  simp only [zo] at ho
  split at ho
  · next v k st' =>
    split at ho
    · next ci fs hk =>
      split at ho
      · next j hj =>
        split at ho
        · next hc =>
          obtain rfl := zgo_inj ho
          obtain ⟨q, ref, hq, hjl, hlink, hsame⟩ := zfd_ok hM hts hj
          obtain ⟨hf, hjf, hfin⟩ := hc
          have hff := zfit_ok (base := base) (fa := fa) hf
          have kk2 : ∀ (H1 : Heap) (locs1 : List Loc), va_P D vwCl ((zwl base fa aC h).set k (base + k, .inr (ci, (fs.map (zsh base fa)).set j (zsh base fa v)))) H1 → va_D (fun q => base ≤ q) ((zwl base fa aC h).set k (base + k, .inr (ci, (fs.map (zsh base fa)).set j (zsh base fa v)))) → va_S (fun q => base ≤ q) s.heap H1 locs1 → W p l e (zrm M) s m args below meth c H1 locs1 uc us Q (F0 m (pc + 3) A (st'.map (zsh base fa))) := by
            intro H1 locs1 hP1 _ hS1
            refine kk H1 locs1 A (zH.set ?_) hS1 hl (by rw [List.length_set]; exact hL)
            have e9 : zce base fa aC (.inr (ci, fs.set j v)) = .inr (ci, (fs.map (zsh base fa)).set j (zsh base fa v)) := by
              show Sum.inr (ci, (fs.set j v).map (zsh base fa)) = _
              rw [List.map_set]
            rw [e9]
            exact hP1
          by_cases hfi : (q.2.1 j).2.2.2 = true
          · have hz1 : zfin ci j = true := by unfold zfin; rw [hq]; exact hfi
            have hz2 : zdc ci j = (q.2.1 j).1 := by unfold zdc; rw [hq]
            obtain ⟨hi1, hi2⟩ := hfin hz1
            exact va_putF (C := q.1) (T := q.2.1) (N := q.2.2) hx hb hts (zuw hq) (zty ci) (zty_ok hq) (znm_ok hq) hown hE.1 hH (zwl_D h) hS k (zwl_at hk) hq j hjl hlink hsame hfi (hin hi1) (by rw [← hz2]; exact hi2) (zty_ok hq j hjl) hff.1 hff.2 (by rw [List.length_map]; exact hjf) hd kk2
          · exact va_put (C := q.1) (T := q.2.1) (N := q.2.2) hx hb hts (zuw hq) (zty ci) (zty_ok hq) (znm_ok hq) hown hE.1 hH (zwl_D h) hS k (zwl_at hk) hq j hjl hlink hsame (by simpa using hfi) (zty_ok hq j hjl) hff.1 hff.2 (by rw [List.length_map]; exact hjf) hd kk2
        · cases ho
      · cases ho
    · cases ho
  · cases ho
set_option maxHeartbeats 1000000 in
theorem zs_new {n : Nat} (X : zX p s m args meth c base fa D aC ro L0 M) (hz : zf M pc = some (.new n)) {k : zK} (ho : zo ro M pc ls st h uc us (.new n) = some k) (hH : zH base fa D aC h H) (hS : va_S (fun q => base ≤ q) s.heap H locs) (hl : lv_has A (zN M) (zlm base fa ls)) (hL : h.length = L0 + uc) (kk : zKK p l e s m args below meth c base fa D aC Q L0 M k) : W p l e (zrm M) s m args below meth c H locs uc us Q (F0 m pc A (st.map (zsh base fa))) := by
  obtain ⟨hx, hb, hml, hown, hts, hE, hin, hM, hs0⟩ := X
  obtain ⟨n0, hd, hn0⟩ := zf_spec hz
  have hn0 := hn0.resolve_left (fun q => by cases q)
  subst hn0
  simp only [zo] at ho
  split at ho
  · next ci hci =>
    split at ho
    · next hc =>
      obtain rfl := zgo_inj ho
      obtain ⟨q, hq, hw1, hw2, hw3⟩ := zcl_ok hM hts hci
      obtain ⟨hn, hdm, hdf⟩ := zdf_ok (base := base) (fa := fa) hq
      refine zWsz hs0 hL hH hS (fun hsz => ?_)
      refine W.newcK (g := F0 m pc A (st.map (zsh base fa))) (C := q.1) (n := q.2.2) hx hb hown hw1 hw2 hw3 rfl hd hc.1 (by rw [← hn]; exact hc.2) (hE.1.1 ci q hq).2.1 hsz (fun H1 kC hkC e1 z1 o1 => ?_)
      have hk : ∀ (k : Nat) (x : Nat × va_E), (zwl base fa aC h)[k]? = some x → H1[x.1]? = H[x.1]? := fun k x hx => o1 x.1 (by rw [← hsz]; exact (hH k x hx).lt)
      rw [← hn]
      refine kk H1 locs A ?_ ⟨Nat.le_trans hS.1 (by rw [z1, hsz]; omega), fun x h1 h2 => (o1 x (by rw [← hsz]; exact Nat.lt_of_lt_of_le h1 hS.1)).trans (hS.2.1 x h1 h2), hS.2.2⟩ hl (by simp only [List.length_append, List.length_cons, List.length_nil]; omega)
      unfold zH
      rw [zwl_app]
      refine va_P.app (va_P.kept hH hk) (fun k x hx => ?_)
      have hz : k < 1 := (List.getElem?_eq_some_iff.mp hx).1
      rw [show k = 0 by omega] at hx
      cases hx
      refine ⟨q, hq, ?_⟩
      show t_OB (base + h.length) (D.1 ci) q.2.2 (D.2 ci) H1 (vp_V ((zdf ci).map (zsh base fa)))
      rw [hdm]
      exact (u_born (zty ci) hts (zuw hq) (hE.1.1 ci q hq) hkC e1 (zty_ok hq)).to hdf
    · cases ho
  · cases ho
set_option maxHeartbeats 1000000 in
theorem zs_newarray {t : ArrayType} (X : zX p s m args meth c base fa D aC ro L0 M) (hz : zf M pc = some (.newarray t)) {k : zK} (ho : zo ro M pc ls st h uc us (.newarray t) = some k) (hH : zH base fa D aC h H) (hS : va_S (fun q => base ≤ q) s.heap H locs) (hl : lv_has A (zN M) (zlm base fa ls)) (hL : h.length = L0 + uc) (kk : zKK p l e s m args below meth c base fa D aC Q L0 M k) : W p l e (zrm M) s m args below meth c H locs uc us Q (F0 m pc A (st.map (zsh base fa))) := by
  obtain ⟨hx, hb, hml, hown, hts, hE, hin, hM, hs0⟩ := X
  obtain ⟨n0, hd, hn0⟩ := zf_spec hz
  have hn0 := hn0.resolve_left (fun q => by cases q)
  subst hn0
  simp only [zo] at ho
  split at ho
  · next n st' =>
    split at ho
    · next tc f hf =>
      split at ho
      · next hc =>
        obtain rfl := zgo_inj ho
        obtain ⟨hn, hle, hcc, hcs⟩ := hc
        refine zWsz hs0 hL hH hS (fun hsz => ?_)
        have key : ∀ (aty : FieldType), newarray.typeOf t = aty → (hw : (Cond.arrayClass aty).before args s = true) → (hby : componentBytes aty ≤ 8) → ([(aC 0, FieldType.int), (aC 1, .long), (aC 2, .boolean), (aC 3, .object RX8)] : List (ClassId × FieldType))[tc]? = some (aC tc, aty) → (hra : ∀ cA, va_RA s cA aty → s.vm.findClass ("[" ++ aty.toString) = some cA) → (hcell : ∀ cA : ClassId, vp_cell cA (n.toNatClampNeg, zca base f) = arrV cA n.toNatClampNeg (fun _ => defaultValue aty)) → W p l e (zrm M) s m args below meth c H locs uc us Q (F0 m pc A (List.map (zsh base fa) (Value.int n :: st'))) := by
          intro aty haty hw hby htt hra hcell
          subst haty
          refine va_newaK (g := F0 m pc A (Value.int n :: st'.map (zsh base fa))) (rest := st'.map (zsh base fa)) hx hb hw rfl hd rfl hn rfl (by have := Nat.mul_le_mul hle hby; omega) hcc hcs hsz (fun H1 cA e1 z1 o1 hAr hNm => ?_)
          have hk : ∀ (k : Nat) (x : Nat × va_E), (zwl base fa aC h)[k]? = some x → H1[x.1]? = H[x.1]? := fun k x hx => o1 x.1 (by rw [← hsz]; exact (hH k x hx).lt)
          have hcA : cA = aC tc := Option.some.inj (hNm.symm.trans (hra _ (hE.1.2 tc _ htt).2))
          subst hcA
          refine kk H1 locs A ?_ ⟨Nat.le_trans hS.1 (by rw [z1, hsz]; omega), fun x h1 h2 => (o1 x (by rw [← hsz]; exact Nat.lt_of_lt_of_le h1 hS.1)).trans (hS.2.1 x h1 h2), hS.2.2⟩ hl (by simp only [List.length_append, List.length_cons, List.length_nil]; omega)
          unfold zH
          rw [zwl_app]
          refine va_P.app (va_P.kept hH hk) (fun k x hx => ?_)
          have hz : k < 1 := (List.getElem?_eq_some_iff.mp hx).1
          rw [show k = 0 by omega] at hx
          cases hx
          show H1[base + h.length]? = some (vp_cell (aC tc) (n.toNatClampNeg, zca base f))
          rw [hcell]
          exact e1
        cases t <;> simp only [zat, Option.some.injEq, Prod.mk.injEq, reduceCtorEq] at hf
        · obtain ⟨rfl, rfl⟩ := hf
          exact key .boolean rfl (hts _ zw_z) (by decide) rfl (fun cA h => h) (fun cA => rfl)
        · obtain ⟨rfl, rfl⟩ := hf
          exact key .int rfl (hts _ zw_i) (by decide) rfl (fun cA h => h) (fun cA => rfl)
        · obtain ⟨rfl, rfl⟩ := hf
          exact key .long rfl (hts _ zw_l) (by decide) rfl (fun cA h => h) (fun cA => rfl)
      · cases ho
    · cases ho
  · cases ho
set_option maxHeartbeats 1000000 in
theorem zs_anewarray {t : Nat} (X : zX p s m args meth c base fa D aC ro L0 M) (hz : zf M pc = some (.anewarray t)) {k : zK} (ho : zo ro M pc ls st h uc us (.anewarray t) = some k) (hH : zH base fa D aC h H) (hS : va_S (fun q => base ≤ q) s.heap H locs) (hl : lv_has A (zN M) (zlm base fa ls)) (hL : h.length = L0 + uc) (kk : zKK p l e s m args below meth c base fa D aC Q L0 M k) : W p l e (zrm M) s m args below meth c H locs uc us Q (F0 m pc A (st.map (zsh base fa))) := by
  obtain ⟨hx, hb, hml, hown, hts, hE, hin, hM, hs0⟩ := X
  obtain ⟨n0, hd, hn0⟩ := zf_spec hz
  have hn0 := hn0.resolve_left (fun q => by cases q)
  subst hn0
  simp only [zo] at ho
  split at ho
  · next n st' =>
    split at ho
    · next hc =>
      obtain rfl := zgo_inj ho
      obtain ⟨hci, hn, hle, hcc, hcs⟩ := hc
      obtain ⟨q, hq, hw1, hw2, hw3⟩ := zcl_ok hM hts hci
      have hq8 : q.1 = RX8 := by cases hq; rfl
      rw [hq8] at hw1
      refine zWsz hs0 hL hH hS (fun hsz => ?_)
      refine W.anew (g := F0 m pc A (Value.int n :: st'.map (zsh base fa))) (rest := st'.map (zsh base fa)) (C := RX8) hx hb hown hw1 (va_AO.use hE.2.2.1) rfl hd rfl hn (by omega) hcc hcs (fun cA kA comp f1 f2 f3 f4 => ?_)
      generalize hH1 : H.push ({ cls := cA, slots := Array.replicate n.toNatClampNeg .null, vm := .none } : Cell) = H1
      have z1 : H1.size = H.size + 1 := by rw [← hH1, Array.size_push]
      have e1 : H1[H.size]? = some (arrV cA n.toNatClampNeg (fun _ => .null)) := by rw [← hH1, Array.getElem?_push_size, ← arrV_new]
      have o1 : ∀ q : Nat, q < H.size → H1[q]? = H[q]? := fun q hq => by rw [← hH1, Array.getElem?_push, if_neg (Nat.ne_of_lt hq)]
      have hk : ∀ (k : Nat) (x : Nat × va_E), (zwl base fa aC h)[k]? = some x → H1[x.1]? = H[x.1]? := fun k x hx => o1 x.1 (hH k x hx).lt
      obtain ⟨kA2, comp2, g1, g2, g3, g4⟩ := (hE.1.2 3 _ rfl).2
      have hcA : cA = aC 3 := Option.some.inj (f1.symm.trans g4)
      subst hcA
      have hst : F0 m (pc + 3) A (Value.ref (base + h.length) :: st'.map (zsh base fa)) = { F0 m pc A (List.map (zsh base fa) (Value.int n :: st')) with pc := pc + 3, stack := .ref H.size :: st'.map (zsh base fa) } := by rw [hsz]
      refine W.eq hst.symm ?_
      refine kk H1 locs A ?_ ⟨Nat.le_trans hS.1 (by rw [z1]; omega), fun x h1 h2 => (o1 x (Nat.lt_of_lt_of_le h1 hS.1)).trans (hS.2.1 x h1 h2), hS.2.2⟩ hl (by simp only [List.length_append, List.length_cons, List.length_nil]; omega)
      unfold zH
      rw [zwl_app]
      refine va_P.app (va_P.kept hH hk) (fun k x hx => ?_)
      have hz : k < 1 := (List.getElem?_eq_some_iff.mp hx).1
      rw [show k = 0 by omega] at hx
      cases hx
      show H1[base + h.length]? = some (vp_cell (aC 3) (n.toNatClampNeg, zca base (.inr (.inr (.inr (.inr (fun _ => none)))))))
      rw [← hsz]
      exact e1
    · cases ho
  · cases ho
set_option maxHeartbeats 1000000 in
theorem zs_baload  (X : zX p s m args meth c base fa D aC ro L0 M) (hz : zf M pc = some (.baload)) {k : zK} (ho : zo ro M pc ls st h uc us (.baload) = some k) (hH : zH base fa D aC h H) (hS : va_S (fun q => base ≤ q) s.heap H locs) (hl : lv_has A (zN M) (zlm base fa ls)) (hL : h.length = L0 + uc) (kk : zKK p l e s m args below meth c base fa D aC Q L0 M k) : W p l e (zrm M) s m args below meth c H locs uc us Q (F0 m pc A (st.map (zsh base fa))) := by
  obtain ⟨hx, hb, hml, hown, hts, hE, hin, hM, hs0⟩ := X
  obtain ⟨n0, hd, hn0⟩ := zf_spec hz
  have hn0 := hn0.resolve_left (fun q => by cases q)
  subst hn0
  simp only [zo] at ho
  split at ho
  · next i k st' =>
    split at ho
    · next n f hk =>
      split at ho
      · cases ho
      · next hc => obtain rfl := zgo_inj ho; exact va_zald hx hb hE.1 hH k 2 (zwl_at hk) rfl hc hd (kk _ _ _ hH hS hl hL)
    · cases ho
  · cases ho
set_option maxHeartbeats 1000000 in
theorem zs_laload  (X : zX p s m args meth c base fa D aC ro L0 M) (hz : zf M pc = some (.laload)) {k : zK} (ho : zo ro M pc ls st h uc us (.laload) = some k) (hH : zH base fa D aC h H) (hS : va_S (fun q => base ≤ q) s.heap H locs) (hl : lv_has A (zN M) (zlm base fa ls)) (hL : h.length = L0 + uc) (kk : zKK p l e s m args below meth c base fa D aC Q L0 M k) : W p l e (zrm M) s m args below meth c H locs uc us Q (F0 m pc A (st.map (zsh base fa))) := by
  obtain ⟨hx, hb, hml, hown, hts, hE, hin, hM, hs0⟩ := X
  obtain ⟨n0, hd, hn0⟩ := zf_spec hz
  have hn0 := hn0.resolve_left (fun q => by cases q)
  subst hn0
  simp only [zo] at ho
  split at ho
  · next i k st' =>
    split at ho
    · next n f hk =>
      split at ho
      · cases ho
      · next hc => obtain rfl := zgo_inj ho; exact va_lald hx hb hE.1 hH k 1 (zwl_at hk) rfl hc hd (kk _ _ _ hH hS hl hL)
    · cases ho
  · cases ho
set_option maxHeartbeats 1000000 in
theorem zs_iaload  (X : zX p s m args meth c base fa D aC ro L0 M) (hz : zf M pc = some (.iaload)) {k : zK} (ho : zo ro M pc ls st h uc us (.iaload) = some k) (hH : zH base fa D aC h H) (hS : va_S (fun q => base ≤ q) s.heap H locs) (hl : lv_has A (zN M) (zlm base fa ls)) (hL : h.length = L0 + uc) (kk : zKK p l e s m args below meth c base fa D aC Q L0 M k) : W p l e (zrm M) s m args below meth c H locs uc us Q (F0 m pc A (st.map (zsh base fa))) := by
  obtain ⟨hx, hb, hml, hown, hts, hE, hin, hM, hs0⟩ := X
  obtain ⟨n0, hd, hn0⟩ := zf_spec hz
  have hn0 := hn0.resolve_left (fun q => by cases q)
  subst hn0
  simp only [zo] at ho
  split at ho
  · next i k st' =>
    split at ho
    · next n f hk =>
      split at ho
      · cases ho
      · next hc => obtain rfl := zgo_inj ho; exact va_iald hx hb hE.1 hH k 0 (zwl_at hk) rfl hc hd (kk _ _ _ hH hS hl hL)
    · cases ho
  · next i x st' =>
    split at ho
    · cases ho
    · next hc => obtain rfl := zgo_inj ho; exact va_ti hx hb (hE.2.2.2.2.1 x) hS hc rfl hd (kk _ _ _ hH hS hl hL)
  · cases ho
set_option maxHeartbeats 1000000 in
theorem zs_aaload  (X : zX p s m args meth c base fa D aC ro L0 M) (hz : zf M pc = some (.aaload)) {k : zK} (ho : zo ro M pc ls st h uc us (.aaload) = some k) (hH : zH base fa D aC h H) (hS : va_S (fun q => base ≤ q) s.heap H locs) (hl : lv_has A (zN M) (zlm base fa ls)) (hL : h.length = L0 + uc) (kk : zKK p l e s m args below meth c base fa D aC Q L0 M k) : W p l e (zrm M) s m args below meth c H locs uc us Q (F0 m pc A (st.map (zsh base fa))) := by
  obtain ⟨hx, hb, hml, hown, hts, hE, hin, hM, hs0⟩ := X
  obtain ⟨n0, hd, hn0⟩ := zf_spec hz
  have hn0 := hn0.resolve_left (fun q => by cases q)
  subst hn0
  simp only [zo] at ho
  split at ho
  · next i k st' =>
    split at ho
    · next n f hk =>
      split at ho
      · cases ho
      · next hc =>
        split at ho
        · next a ha =>
          obtain rfl := zgo_inj ho
          refine va_aldq (C := RX8) hx hb hE.1 hH k 3 (zwl_at hk) rfl hc hd ?_
          have h9 := kk _ _ _ hH hS hl hL
          simp only [ha, Option.map_some]
          exact h9
        · cases ho
    · cases ho
  · cases ho
set_option maxHeartbeats 1000000 in
theorem zs_iastore  (X : zX p s m args meth c base fa D aC ro L0 M) (hz : zf M pc = some (.iastore)) {k : zK} (ho : zo ro M pc ls st h uc us (.iastore) = some k) (hH : zH base fa D aC h H) (hS : va_S (fun q => base ≤ q) s.heap H locs) (hl : lv_has A (zN M) (zlm base fa ls)) (hL : h.length = L0 + uc) (kk : zKK p l e s m args below meth c base fa D aC Q L0 M k) : W p l e (zrm M) s m args below meth c H locs uc us Q (F0 m pc A (st.map (zsh base fa))) := by
  obtain ⟨hx, hb, hml, hown, hts, hE, hin, hM, hs0⟩ := X
  obtain ⟨n0, hd, hn0⟩ := zf_spec hz
  have hn0 := hn0.resolve_left (fun q => by cases q)
  subst hn0
  simp only [zo] at ho
  split at ho
  · next x i k st' =>
    split at ho
    · next n f hk =>
      split at ho
      · cases ho
      · next hc => obtain rfl := zgo_inj ho; exact va_iast hx hb hE.1 hH (zwl_D h) hS k 0 (zwl_at hk) rfl hc hd (fun H1 locs1 hP1 _ hS1 => kk H1 locs1 A (zH.set (e1 := (.inl (0, n, .inl (upd f i.toNatClampNeg x)))) hP1) hS1 hl (by rw [List.length_set]; exact hL))
    · cases ho
  · cases ho
set_option maxHeartbeats 1000000 in
theorem zs_bastore  (X : zX p s m args meth c base fa D aC ro L0 M) (hz : zf M pc = some (.bastore)) {k : zK} (ho : zo ro M pc ls st h uc us (.bastore) = some k) (hH : zH base fa D aC h H) (hS : va_S (fun q => base ≤ q) s.heap H locs) (hl : lv_has A (zN M) (zlm base fa ls)) (hL : h.length = L0 + uc) (kk : zKK p l e s m args below meth c base fa D aC Q L0 M k) : W p l e (zrm M) s m args below meth c H locs uc us Q (F0 m pc A (st.map (zsh base fa))) := by
  obtain ⟨hx, hb, hml, hown, hts, hE, hin, hM, hs0⟩ := X
  obtain ⟨n0, hd, hn0⟩ := zf_spec hz
  have hn0 := hn0.resolve_left (fun q => by cases q)
  subst hn0
  simp only [zo] at ho
  split at ho
  · next x i k st' =>
    split at ho
    · next n f hk =>
      split at ho
      · cases ho
      · next hc => obtain rfl := zgo_inj ho; exact va_zast hx hb hE.1 hH (zwl_D h) hS k 2 (zwl_at hk) rfl hc hd (fun H1 locs1 hP1 _ hS1 => kk H1 locs1 A (zH.set (e1 := (.inl (2, n, .inl (upd f i.toNatClampNeg (vp_nar .boolean x))))) hP1) hS1 hl (by rw [List.length_set]; exact hL))
    · cases ho
  · cases ho
set_option maxHeartbeats 1000000 in
theorem zs_lastore  (X : zX p s m args meth c base fa D aC ro L0 M) (hz : zf M pc = some (.lastore)) {k : zK} (ho : zo ro M pc ls st h uc us (.lastore) = some k) (hH : zH base fa D aC h H) (hS : va_S (fun q => base ≤ q) s.heap H locs) (hl : lv_has A (zN M) (zlm base fa ls)) (hL : h.length = L0 + uc) (kk : zKK p l e s m args below meth c base fa D aC Q L0 M k) : W p l e (zrm M) s m args below meth c H locs uc us Q (F0 m pc A (st.map (zsh base fa))) := by
  obtain ⟨hx, hb, hml, hown, hts, hE, hin, hM, hs0⟩ := X
  obtain ⟨n0, hd, hn0⟩ := zf_spec hz
  have hn0 := hn0.resolve_left (fun q => by cases q)
  subst hn0
  simp only [zo] at ho
  split at ho
  · next x i k st' =>
    split at ho
    · next n f hk =>
      split at ho
      · cases ho
      · next hc => obtain rfl := zgo_inj ho; exact va_last hx hb hE.1 hH (zwl_D h) hS k 1 (zwl_at hk) rfl hc hd (fun H1 locs1 hP1 _ hS1 => kk H1 locs1 A (zH.set (e1 := (.inl (1, n, .inr (.inl (vp_updL f i.toNatClampNeg x))))) hP1) hS1 hl (by rw [List.length_set]; exact hL))
    · cases ho
  · cases ho
set_option maxHeartbeats 1000000 in
theorem zs_aastore  (X : zX p s m args meth c base fa D aC ro L0 M) (hz : zf M pc = some (.aastore)) {k : zK} (ho : zo ro M pc ls st h uc us (.aastore) = some k) (hH : zH base fa D aC h H) (hS : va_S (fun q => base ≤ q) s.heap H locs) (hl : lv_has A (zN M) (zlm base fa ls)) (hL : h.length = L0 + uc) (kk : zKK p l e s m args below meth c base fa D aC Q L0 M k) : W p l e (zrm M) s m args below meth c H locs uc us Q (F0 m pc A (st.map (zsh base fa))) := by
  obtain ⟨hx, hb, hml, hown, hts, hE, hin, hM, hs0⟩ := X
  obtain ⟨n0, hd, hn0⟩ := zf_spec hz
  have hn0 := hn0.resolve_left (fun q => by cases q)
  subst hn0
  simp only [zo] at ho
  split at ho
  · next v i k st' =>
    split at ho
    · next n f ci vs hk hv =>
      split at ho
      · cases ho
      · next hc =>
        split at ho
        · next hci =>
          obtain rfl := zgo_inj ho
          have kk2 : ∀ (H1 : Heap) (locs1 : List Loc), va_P D vwCl ((zwl base fa aC h).set k (base + k, .inl (aC 3, n, .inr (.inr (.inr (.inr (va_up (fun i => (f i).map (fun k => base + k)) i.toNatClampNeg (some (base + v))))))))) H1 → va_D (fun q => base ≤ q) ((zwl base fa aC h).set k (base + k, .inl (aC 3, n, .inr (.inr (.inr (.inr (va_up (fun i => (f i).map (fun k => base + k)) i.toNatClampNeg (some (base + v))))))))) → va_S (fun q => base ≤ q) s.heap H1 locs1 → W p l e (zrm M) s m args below meth c H1 locs1 uc us Q (F0 m (pc + 1) A (st'.map (zsh base fa))) := by
            intro H1 locs1 hP1 _ hS1
            refine kk H1 locs1 A (zH.set (e1 := (.inl (3, n, .inr (.inr (.inr (.inr (va_up f i.toNatClampNeg (some v)))))))) ?_) hS1 hl (by rw [List.length_set]; exact hL)
            have e9 : (fun j => (va_up f i.toNatClampNeg (some v) j).map (fun k => base + k)) = va_up (fun i => (f i).map (fun k => base + k)) i.toNatClampNeg (some (base + v)) := by
              funext j
              unfold va_up
              by_cases hj : j = i.toNatClampNeg
              · rw [if_pos hj, if_pos hj]; rfl
              · rw [if_neg hj, if_neg hj]
            have e8 : zce base fa aC (.inl (3, n, .inr (.inr (.inr (.inr (va_up f i.toNatClampNeg (some v))))))) = .inl (aC 3, n, .inr (.inr (.inr (.inr (fun j => (va_up f i.toNatClampNeg (some v) j).map (fun k => base + k)))))) := rfl
            rw [e8, e9]
            exact hP1
          rcases hci with rfl | rfl | rfl | rfl | rfl
          · exact va_astq (r := (RX8, TX8, 1)) hx hb hE.1 hH (zwl_D h) hS k 3 v 8 (zwl_at hk) rfl (zwl_at hv) rfl hc hd kk2
          · exact va_astqO (E := RX8) (r := (RX6, TX6, 1)) hx hb hE.1 hH (zwl_D h) hS k 3 v 6 (zwl_at hk) rfl (hE.2.2.2.1 RX6 (by simp)) (zwl_at hv) rfl hc hd kk2
          · exact va_astqO (E := RX8) (r := (RX7, TX7, 1)) hx hb hE.1 hH (zwl_D h) hS k 3 v 7 (zwl_at hk) rfl (hE.2.2.2.1 RX7 (by simp)) (zwl_at hv) rfl hc hd kk2
          · exact va_astqO (E := RX8) (r := (RX2, TX2, 1)) hx hb hE.1 hH (zwl_D h) hS k 3 v 2 (zwl_at hk) rfl (hE.2.2.2.1 RX2 (by simp)) (zwl_at hv) rfl hc hd kk2
          · exact va_astqO (E := RX8) (r := (RX1, TX1, 1)) hx hb hE.1 hH (zwl_D h) hS k 3 v 1 (zwl_at hk) rfl (hE.2.2.2.1 RX1 (by simp)) (zwl_at hv) rfl hc hd kk2
        · cases ho
    · cases ho
  · cases ho
set_option maxHeartbeats 1000000 in
theorem zs_arraylength  (X : zX p s m args meth c base fa D aC ro L0 M) (hz : zf M pc = some (.arraylength)) {k : zK} (ho : zo ro M pc ls st h uc us (.arraylength) = some k) (hH : zH base fa D aC h H) (hS : va_S (fun q => base ≤ q) s.heap H locs) (hl : lv_has A (zN M) (zlm base fa ls)) (hL : h.length = L0 + uc) (kk : zKK p l e s m args below meth c base fa D aC Q L0 M k) : W p l e (zrm M) s m args below meth c H locs uc us Q (F0 m pc A (st.map (zsh base fa))) := by
  obtain ⟨hx, hb, hml, hown, hts, hE, hin, hM, hs0⟩ := X
  obtain ⟨n0, hd, hn0⟩ := zf_spec hz
  have hn0 := hn0.resolve_left (fun q => by cases q)
  subst hn0
  simp only [zo] at ho
  split at ho
  · next x st' => obtain rfl := zgo_inj ho; exact va_tlen hx hb (hE.2.2.2.2.1 x) hS rfl hd (kk _ _ _ hH hS hl hL)
  · cases ho
set_option maxHeartbeats 1000000 in
theorem zs_getstatic {n : Nat} (X : zX p s m args meth c base fa D aC ro L0 M) (hz : zf M pc = some (.getstatic n)) {k : zK} (ho : zo ro M pc ls st h uc us (.getstatic n) = some k) (hH : zH base fa D aC h H) (hS : va_S (fun q => base ≤ q) s.heap H locs) (hl : lv_has A (zN M) (zlm base fa ls)) (hL : h.length = L0 + uc) (kk : zKK p l e s m args below meth c base fa D aC Q L0 M k) : W p l e (zrm M) s m args below meth c H locs uc us Q (F0 m pc A (st.map (zsh base fa))) := by
  obtain ⟨hx, hb, hml, hown, hts, hE, hin, hM, hs0⟩ := X
  obtain ⟨n0, hd, hn0⟩ := zf_spec hz
  have hn0 := hn0.resolve_left (fun q => by cases q)
  subst hn0
  simp only [zo] at ho
  split at ho
  · next hc =>
    obtain rfl := zgo_inj ho
    obtain ⟨h11, rfl⟩ := hc
    have ho1 : (zy M).cls = RX11 := by rw [(zown_at M hM).1, h11]; rfl
    exact va_gets (C := RX11) (ref := "HeronsBench") hx hb hE.2.2.2.2.2.1 hS (ho1 ▸ hown) (hts _ zw_k) (fun _ h9 => h9) hd (kk _ _ _ hH hS hl hL)
  · cases ho
end ZSH
end
section
/-! ===== calls ===== -/
theorem zMet_ofW {l : Launch} {y : MethodName} {ws ws' : List Cond} {rm : Room} {Pc : Array Value → State → Prop} {Qc : Array Value → State → Outcome → State → Prop} {mc ms : Nat} {free : Addr → Prop} {cc : ByteArray} {maxL : Nat} {ret : Option FieldType}
    (hy : plainFor y = true) (hw : ws = Cond.code y cc maxL ret :: ws')
    (body : ∀ p e s m args below meth c s₁, BodyLoose p l y (headSpec ws rm) cc maxL ret e s m args below meth c s₁ → c.maxLocals = maxL → Pc args s →
      W p l e (headSpec ws rm).room s m args below meth c s.heap [] 0 0 (MQ below Qc args s mc ms free) (entryFrame m args maxL)) : Met l y ws rm Pc Qc mc ms free := by
  refine MetFree.of_bodySF (code := cc) (maxLocals := maxL) (ret := ret) hy ?_ ?_
  · intro args s m h hn
    obtain ⟨meth, c, h1, h2, h3, h4, h5, h6, -, -⟩ := Cond.code_spec hn (atoms_spec (ws := ws) h _ (by rw [hw]; exact List.mem_cons_self))
    exact ⟨meth, c, h1, h2, h3, h4, h5, h6⟩
  · intro p e s m args below meth c s₁ B hml hP _
    obtain ⟨t, a1, o, b1, b2, b3⟩ := body p e s m args below meth c s₁ B hml hP s₁ (by rw [B.state]; rfl) (Stand.of_body B)
    exact ⟨t, o, a1, b1, b2, b3⟩
def zQc (base : Nat) (fa : UInt32 → Nat) (D : va_G) (aC : Nat → ClassId) (r : Option Value) (h1 : List va_E) (n : Nat) : Array Value → State → Outcome → State → Prop := fun _ st oc t => (oc = .returned (r.map (zsh base fa)) ∧ zH base fa D aC h1 t.heap ∧ h1.length = n) ∧ va_F (fun q => base ≤ q) st t
def zPc (base : Nat) (fa : UInt32 → Nat) (D : va_G) (aC : Nat → ClassId) (ro : UInt32 → Nat × (Nat → Int32)) (as : List Value) (h : List va_E) : Array Value → State → Prop := va_Pc (as.map (zsh base fa)) (fun U => zEnv base fa D aC ro U ∧ zH base fa D aC h U.heap ∧ U.heap.size = base + h.length)
theorem zPc_blind {base : Nat} {fa : UInt32 → Nat} {D : va_G} {aC : Nat → ClassId} {ro : UInt32 → Nat × (Nat → Int32)} {as : List Value} {h : List va_E} : FrameBlind (zPc base fa D aC ro as h) := fun _ _ _ _ q => ⟨q.1, zEnv.same q.2.1 rfl rfl, q.2.2.1, q.2.2.2⟩
theorem zcats {base : Nat} {fa : UInt32 → Nat} (st : List Value) : ((st.map (zsh base fa)).map fun v => v.category).sum = (st.map fun v => v.category).sum := by
  rw [List.map_map]
  congr 1
  apply List.map_congr_left
  intro v _
  exact zsh_cat base fa v
theorem zcall_ok {M idx ci : Nat} {e : zCe} (h : zcall M idx ci = some e) : (e.1 = M ∧ e.2.1 = idx ∧ e.2.2.1 = ci) ∧ e ∈ zcp ∧ zcr e = true ∧ ∀ w ∈ zwd e, w ∈ zwt := by
  unfold zcall at h
  have h1 := List.find?_some h
  simp only [Bool.and_eq_true, beq_iff_eq] at h1
  have hm := List.mem_of_find?_eq_some h
  have h2 := zcp_ok e hm
  unfold zcok at h2
  simp only [Bool.and_eq_true, decide_eq_true_eq] at h2
  obtain ⟨⟨h3, h4⟩, h5⟩ := h2
  refine ⟨h1, hm, h3, fun w hw => ?_⟩
  obtain ⟨k, hk⟩ := List.getElem?_of_mem hw
  have h6 : (e.2.2.2.2.2.2.2.map (fun i => lw_tbl[i]?))[k]? = some (some w) := by rw [h4, List.getElem?_map, hk]; rfl
  rw [List.getElem?_map] at h6
  cases hi : e.2.2.2.2.2.2.2[k]? with
  | none => rw [hi] at h6; cases h6
  | some i => rw [hi] at h6; exact zwt_mem (Option.some.inj h6) (List.all_eq_true.mp h5 w hw)
theorem zws_in {M1 : Nat} (h : M1 < 189) : ∀ w ∈ zws M1, w ∈ zwt := by
  intro w hw
  rcases List.mem_cons.mp hw with rfl | hw
  · exact List.mem_filter.mpr ⟨zcl189 M1 h, rfl⟩
  · exact hw
theorem zgoodIn {ws : List Cond} (h : ∀ w ∈ ws, w ∈ zwt) : GoodIn zwt ws := fun w hw => ⟨h w hw, good_of_word (zwt_good (h w hw))⟩
section ZCL
variable {p : Program} {l : Launch} {e : Env} {s : State} {m : MethodId} {args : Array Value} {below : List Frame} {meth : Method} {c : Code} {base : Nat} {fa : UInt32 → Nat} {D : va_G} {aC : Nat → ClassId} {ro : UInt32 → Nat × (Nat → Int32)} {Q : State → Prop} {L0 M pc : Nat} {ls : List (Nat × Value)} {st : List Value} {h : List va_E} {uc us : Nat} {H : Heap} {locs : List Loc} {A : Array Slot}
theorem zcallW {mc ms n : Nat} {R : Room} {st0 rest : List Value} {r : Option Value} {h1 : List va_E} {a : Array Value} (hr : va_Run p l e R s m args below meth c H locs uc us mc ms (F0 m pc A st0) rest (zQc base fa D aC r h1 n a) (fun q => base ≤ q)) (hS : va_S (fun q => base ≤ q) s.heap H locs)
    (kk : ∀ (H1 : Heap) (locs1 : List Loc), zH base fa D aC h1 H1 → h1.length = n → va_S (fun q => base ≤ q) s.heap H1 locs1 → W p l e R s m args below meth c H1 locs1 (uc + mc) (us + ms) Q (F0 m (pc + 3) A ((r.map (zsh base fa)).toList ++ rest))) : W p l e R s m args below meth c H locs uc us Q (F0 m pc A st0) := by
  intro T hT X
  obtain ⟨v, st₀, t, T', L, h0, X', hL, e1, e2, ⟨⟨hv, hh, hn⟩, hz, hk⟩, st⟩ := hr T hT X
  cases hv
  rw [h0] at hz hk
  obtain ⟨t2, a1, b1⟩ := kk T'.heap (locs ++ L) (by rw [e1]; exact hh) hn ⟨Nat.le_trans hS.1 (by rw [e1]; exact hz), fun q h1 h2 => by rw [e1, hk q (Nat.lt_of_lt_of_le h1 hS.1) h2]; exact hS.2.1 q h1 h2, fun q hq => by
      rcases List.mem_append.mp hq with h | h
      · exact hS.2.2 q h
      · exact hL q h⟩ T' rfl X'
  exact ⟨t2, st t2 a1, b1⟩
/-- what is known of a call -/
def zCall (p : Program) (l : Launch) (e : Env) (s : State) (m : MethodId) (args : Array Value) (below : List Frame) (meth : Method) (c : Code) (base : Nat) (fa : UInt32 → Nat) (D : va_G) (aC : Nat → ClassId) (ro : UInt32 → Nat × (Nat → Int32)) (M pc : Nat) (st : List Value) (h : List va_E) (uc us : Nat) (H : Heap) (locs : List Loc) (A : Array Slot) (M1 : Nat) (as rest : List Value) : Prop :=
  M1 < 189 ∧ plainFor (zy M1) = true ∧ uc + (zrm M1).cells ≤ (zrm M).cells ∧ us + (zrm M1).slots ≤ (zrm M).slots ∧ ∀ (r : Option Value) (h1 : List va_E) (n : Nat), Met l (zy M1) (zws M1) (zrm M1) (zPc base fa D aC ro as h) (zQc base fa D aC r h1 n) (zrm M1).cells (zrm M1).slots (fun q => base ≤ q) → H.size = base + h.length →
    va_Run p l e (zrm M) s m args below meth c H locs uc us (zrm M1).cells (zrm M1).slots (F0 m pc A (st.map (zsh base fa))) (rest.map (zsh base fa)) (zQc base fa D aC r h1 n (as.map (zsh base fa)).toArray) (fun q => base ≤ q)
theorem ztake {n : Nat} {st rest : List Value} {v : Value} (h : st.drop n = v :: rest) : st.map (zsh base fa) = (((st.take n).reverse).map (zsh base fa)).reverse ++ zsh base fa v :: rest.map (zsh base fa) ∧ (((st.take n).reverse).map (zsh base fa)).length = n := by
  have hl : n < st.length := by
    rcases Nat.lt_or_ge n st.length with q | q
    · exact q
    · rw [List.drop_eq_nil_of_le q] at h; cases h
  refine ⟨?_, ?_⟩
  · rw [List.map_reverse, List.reverse_reverse, ← List.map_cons, ← List.map_append, ← h, List.take_append_drop]
  · rw [List.length_map, List.length_reverse, List.length_take]; omega
set_option maxHeartbeats 1000000 in
theorem zc_virtual {n0 : Nat} {M1 : Nat} {as rest : List Value} (X : zX p s m args meth c base fa D aC ro L0 M) (hz : zf M pc = some (.invokevirtual n0)) (ho : zo ro M pc ls st h uc us (.invokevirtual n0) = some (.inr (.inl (M1, as, rest)))) (hH : zH base fa D aC h H) (hS : va_S (fun q => base ≤ q) s.heap H locs) (hl : lv_has A (zN M) (zlm base fa ls)) : zCall p l e s m args below meth c base fa D aC ro M pc st h uc us H locs A M1 as rest := by
  obtain ⟨hx, hb, hml, hown, hts, hE, hin, hM, hs0⟩ := X
  obtain ⟨nl, hd, hnl⟩ := zf_spec hz
  have hnl := hnl.resolve_left (fun q => by cases q)
  subst hnl
  simp only [zo] at ho
  split at ho
  · next n hn =>
    split at ho
    · next k rest' hdrop =>
      split at ho
      · next ci fs hk =>
        split at ho
        · next M' idx' ci' kd M1' n1 Mx ps hc =>
          split at ho
          · next hcond =>
            obtain ⟨hkd, rfl, hcat, hcc, hcs⟩ := hcond
            simp only [Option.some.injEq, Sum.inr.injEq, Sum.inl.injEq, Prod.mk.injEq] at ho
            obtain ⟨rfl, rfl, rfl⟩ := ho
            obtain ⟨⟨h1, h2, h3⟩, hmem, hcr, hw⟩ := zcall_ok hc
            simp only at h1 h2 h3
            subst h1; subst h2; subst h3
            have hkd2 : kd = 0 ∨ kd = 1 := by omega
            obtain ⟨q, hq⟩ : ∃ q, vwCl[ci']? = some q := by
              obtain ⟨r, hr, -⟩ := hH k _ (zwl_at hk)
              exact ⟨r, hr⟩
            have hRq : q.1 = zR ci' := by
              have hl := zcl_lt hq
              match ci', hl, hq with
              | 0, _, hq => cases hq; rfl
              | 1, _, hq => cases hq; rfl
              | 2, _, hq => cases hq; rfl
              | 3, _, hq => cases hq; rfl
              | 4, _, hq => cases hq; rfl
              | 5, _, hq => cases hq; rfl
              | 6, _, hq => cases hq; rfl
              | 7, _, hq => cases hq; rfl
              | 8, _, hq => cases hq; rfl
              | 9, _, hq => cases hq; rfl
              | 10, _, hq => cases hq; rfl
              | 11, _, hq => cases hq; rfl
              | 12, _, hq => cases hq; rfl
            have hrecv := va_recv hE.1 hH hq (zwl_at hk)
            obtain ⟨hst, hal⟩ := ztake (base := base) (fa := fa) hdrop
            unfold zcr at hcr
            rcases hkd2 with rfl | rfl
            · simp only [reduceCtorEq, Nat.reduceEqDiff, if_false, if_true, Bool.and_eq_true, decide_eq_true_eq] at hcr
              obtain ⟨⟨⟨⟨⟨⟨⟨c1, c2⟩, c3⟩, c4⟩, c5⟩, c6⟩, c7⟩, c8⟩ := hcr
              refine ⟨c6, c7, hcc, hcs, fun r h1 nn hMet hsz => ?_⟩
              rw [hst]
              refine va_runV (C := q.1) (As := ((st.take n1).reverse).map (zsh base fa)) ⟨hx, hb, hml, hown, hts⟩ hMet (cwV n1 hts (zgoodIn ?_) rfl rfl rfl ⟨by rw [hRq]; exact c8, c3, c4, c5⟩ ⟨c1, c2⟩) ⟨zPc_blind, hrecv, fun U hU hW => ⟨rfl, hE.at hS hU hW, by rw [hU]; exact hH, by rw [hU]; exact hsz⟩⟩ rfl hal hl.1 rfl (lv_room (by rw [zcats]; exact hcat)) hd ⟨hcc, hcs⟩
              intro w hw1
              rcases List.mem_append.mp hw1 with h9 | h9
              · rw [hRq] at h9; exact hw w h9
              · exact zws_in c6 w h9
            · simp only [reduceCtorEq, Nat.reduceEqDiff, if_false, if_true, Bool.and_eq_true, decide_eq_true_eq] at hcr
              obtain ⟨⟨⟨⟨⟨⟨⟨c1, c2⟩, c3⟩, c4⟩, c5⟩, c6⟩, c7⟩, ⟨⟨⟨⟨d1, d2⟩, d3⟩, d4⟩, d5⟩⟩ := hcr
              refine ⟨c6, c7, hcc, hcs, fun r h1 nn hMet hsz => ?_⟩
              rw [hst]
              refine va_runU (C := q.1) (owner := (zy Mx).cls) (x := zy Mx) (As := ((st.take n1).reverse).map (zsh base fa)) ⟨hx, hb, hml, hown, hts⟩ hMet (va_cwO n1 hts (zgoodIn ?_) rfl rfl rfl (b0 := zc Mx) (m0 := zN Mx) (r0 := zret Mx) (zws_in d3 _ List.mem_cons_self) ⟨d1, d2, by rw [d5]; exact c5⟩ ⟨c1, c2⟩) ⟨zPc_blind, hrecv, fun U hU hW => ⟨rfl, hE.at hS hU hW, by rw [hU]; exact hH, by rw [hU]; exact hsz⟩⟩ rfl hal hl.1 rfl (lv_room (by rw [zcats]; exact hcat)) hd ⟨hcc, hcs⟩
              intro w hw1
              rcases List.mem_append.mp hw1 with h9 | h9
              · rw [hRq] at h9; exact hw w h9
              · exact zws_in c6 w h9
          · cases ho
        · cases ho
      · cases ho
    · cases ho
  · cases ho
set_option maxHeartbeats 1000000 in
theorem zc_static {n0 : Nat} {M1 : Nat} {as rest : List Value} (X : zX p s m args meth c base fa D aC ro L0 M) (hz : zf M pc = some (.invokestatic n0)) (ho : zo ro M pc ls st h uc us (.invokestatic n0) = some (.inr (.inl (M1, as, rest)))) (hH : zH base fa D aC h H) (hS : va_S (fun q => base ≤ q) s.heap H locs) (hl : lv_has A (zN M) (zlm base fa ls)) : zCall p l e s m args below meth c base fa D aC ro M pc st h uc us H locs A M1 as rest := by
  obtain ⟨hx, hb, hml, hown, hts, hE, hin, hM, hs0⟩ := X
  obtain ⟨nl, hd, hnl⟩ := zf_spec hz
  have hnl := hnl.resolve_left (fun q => by cases q)
  subst hnl
  simp only [zo] at ho
  split at ho
  · next M' idx' ci' kd M1' n Mx ps hc =>
    split at ho
    · next hkd =>
      split at ho
      · next hcond =>
        obtain ⟨hlen, hcat, hcc, hcs⟩ := hcond
        simp only [Option.some.injEq, Sum.inr.injEq, Sum.inl.injEq, Prod.mk.injEq] at ho
        obtain ⟨rfl, rfl, rfl⟩ := ho
        obtain ⟨⟨h1, h2, h3⟩, hmem, hcr, hw⟩ := zcall_ok hc
        simp only at h1 h2 h3
        subst h1; subst h2
        have hst : st.map (zsh base fa) = (((st.take n).reverse).map (zsh base fa)).reverse ++ (st.drop n).map (zsh base fa) := by
          rw [List.map_reverse, List.reverse_reverse, ← List.map_append, List.take_append_drop]
        have hal : (((st.take n).reverse).map (zsh base fa)).length = n := by rw [List.length_map, List.length_reverse, List.length_take]; omega
        unfold zcr at hcr
        rcases hkd with rfl | rfl
        · simp only [reduceCtorEq, Nat.reduceEqDiff, if_false, if_true, Bool.and_eq_true, decide_eq_true_eq, and_true] at hcr
          obtain ⟨⟨⟨⟨⟨⟨c1, c2⟩, c3⟩, c4⟩, c5⟩, c6⟩, c7⟩ := hcr
          refine ⟨c6, c7, hcc, hcs, fun r h1 nn hMet hsz => ?_⟩
          rw [hst]
          refine va_runS (As := ((st.take n).reverse).map (zsh base fa)) ⟨hx, hb, hml, hown, hts⟩ hMet (va_cwS n hts (zgoodIn ?_) rfl rfl rfl ⟨c3, c4, c5⟩ ⟨c1, c2⟩) ⟨zPc_blind, fun U hU hW => ⟨rfl, hE.at hS hU hW, by rw [hU]; exact hH, by rw [hU]; exact hsz⟩⟩ rfl hal hl.1 rfl (lv_room (by rw [zcats]; exact hcat)) hd ⟨hcc, hcs⟩
          intro w hw1
          rcases List.mem_append.mp hw1 with h9 | h9
          · exact hw w h9
          · exact zws_in c6 w h9
        · simp only [reduceCtorEq, Nat.reduceEqDiff, if_false, if_true, Bool.and_eq_true, decide_eq_true_eq, and_true] at hcr
          obtain ⟨⟨⟨⟨⟨⟨c1, c2⟩, c3⟩, c4⟩, c5⟩, c6⟩, c7⟩ := hcr
          refine ⟨c6, c7, hcc, hcs, fun r h1 nn hMet hsz => ?_⟩
          rw [hst]
          refine va_runSN (host := RX11) (As := ((st.take n).reverse).map (zsh base fa)) ⟨hx, hb, hml, hown, hts⟩ hMet ⟨va_cnB n hts (zgoodIn (zws_in c6)) rfl rfl rfl (hE.2.1 _ (znest_in _ hmem (Or.inl rfl))) (hts _ (hw (.initialized (zy M1').cls) (by simp [zwd]))) ⟨c3, c4, c5⟩ ⟨c1, c2⟩, hts _ (hw (.static (zy M1')) (by simp [zwd])), trivial⟩ ⟨zPc_blind, fun U hU hW => ⟨rfl, hE.at hS hU hW, by rw [hU]; exact hH, by rw [hU]; exact hsz⟩⟩ rfl hal hl.1 rfl (lv_room (by rw [zcats]; exact hcat)) hd ⟨hcc, hcs⟩
      · cases ho
    · split at ho
      · split at ho
        · split at ho
          · split at ho
            · cases ho
            · cases ho
          · split at ho
            · cases ho
            · cases ho
          · cases ho
        · cases ho
      · cases ho
  · cases ho
set_option maxHeartbeats 1000000 in
theorem zc_special {n0 : Nat} {M1 : Nat} {as rest : List Value} (X : zX p s m args meth c base fa D aC ro L0 M) (hz : zf M pc = some (.invokespecial n0)) (ho : zo ro M pc ls st h uc us (.invokespecial n0) = some (.inr (.inl (M1, as, rest)))) (hH : zH base fa D aC h H) (hS : va_S (fun q => base ≤ q) s.heap H locs) (hl : lv_has A (zN M) (zlm base fa ls)) : zCall p l e s m args below meth c base fa D aC ro M pc st h uc us H locs A M1 as rest := by
  obtain ⟨hx, hb, hml, hown, hts, hE, hin, hM, hs0⟩ := X
  obtain ⟨nl, hd, hnl⟩ := zf_spec hz
  have hnl := hnl.resolve_left (fun q => by cases q)
  subst hnl
  simp only [zo] at ho
  split at ho
  · next M' idx' ci' kd M1' n Mx ps hc =>
    split at ho
    · split at ho
      · split at ho
        · cases ho
        · cases ho
      · cases ho
    · split at ho
      · next hkd =>
        split at ho
        · next k rest' hdrop =>
          split at ho
          · next hcond =>
            obtain ⟨hcat, hcc, hcs⟩ := hcond
            simp only [Option.some.injEq, Sum.inr.injEq, Sum.inl.injEq, Prod.mk.injEq] at ho
            obtain ⟨rfl, rfl, rfl⟩ := ho
            obtain ⟨⟨h1, h2, h3⟩, hmem, hcr, hw⟩ := zcall_ok hc
            simp only at h1 h2 h3
            subst h1; subst h2
            obtain ⟨hst, hal⟩ := ztake (base := base) (fa := fa) hdrop
            unfold zcr at hcr
            rcases hkd with rfl | rfl
            · simp only [reduceCtorEq, Nat.reduceEqDiff, if_false, if_true, Bool.and_eq_true, decide_eq_true_eq] at hcr
              obtain ⟨⟨⟨⟨⟨⟨⟨c1, c2⟩, c3⟩, c4⟩, c5⟩, c6⟩, c7⟩, ⟨d1, d2⟩⟩ := hcr
              refine ⟨c6, c7, hcc, hcs, fun r h1 nn hMet hsz => ?_⟩
              rw [hst]
              exact va_runI (As := ((st.take n).reverse).map (zsh base fa)) ⟨hx, hb, hml, hown, hts⟩ hMet (cwI (bytes := zc M1') (maxL := zN M1') n hts (zgoodIn (zws_in c6)) (by rw [← d2]; rfl) rfl rfl (hts _ (hw (.initialized (zy M1').cls) (by simp [zwd]))) (hts _ (hw (.methodLink (zy M').cls idx' (zy M1')) (by simp [zwd]))) (hts _ (hw (.instanceMethod (zy M1')) (by simp [zwd]))) d1 ⟨c3, c4, c5⟩ ⟨c1, c2⟩) ⟨zPc_blind, fun U hU hW => ⟨rfl, hE.at hS hU hW, by rw [hU]; exact hH, by rw [hU]; exact hsz⟩⟩ rfl hal hl.1 rfl (lv_room (by rw [zcats]; exact hcat)) hd ⟨hcc, hcs⟩
            · simp only [reduceCtorEq, Nat.reduceEqDiff, if_false, if_true, Bool.and_eq_true, decide_eq_true_eq] at hcr
              obtain ⟨⟨⟨⟨⟨⟨⟨c1, c2⟩, c3⟩, c4⟩, c5⟩, c6⟩, c7⟩, ⟨d1, d2⟩⟩ := hcr
              refine ⟨c6, c7, hcc, hcs, fun r h1 nn hMet hsz => ?_⟩
              rw [hst]
              exact va_runIN (host := RX11) (As := ((st.take n).reverse).map (zsh base fa)) ⟨hx, hb, hml, hown, hts⟩ hMet ⟨va_cnB (bytes := zc M1') (maxL := zN M1') (ret := none) n hts (zgoodIn (zws_in c6)) (by rw [← d2]; rfl) rfl rfl (hE.2.1 _ (znest_in _ hmem (Or.inr rfl))) (hts _ (hw (.initialized (zy M1').cls) (by simp [zwd]))) ⟨c3, c4, c5⟩ ⟨c1, c2⟩, d1, hts _ (hw (.instanceMethod (zy M1')) (by simp [zwd]))⟩ ⟨zPc_blind, fun U hU hW => ⟨rfl, hE.at hS hU hW, by rw [hU]; exact hH, by rw [hU]; exact hsz⟩⟩ rfl hal hl.1 rfl (lv_room (by rw [zcats]; exact hcat)) hd ⟨hcc, hcs⟩
          · cases ho
        · cases ho
      · cases ho
  · split at ho
    · next M' idx' ci' kd M1' n Mx ps hc =>
      split at ho
      · next hkd =>
        split at ho
        · next k rest' hdrop =>
          split at ho
          · next ci fs hk =>
            split at ho
            · next hcond =>
              obtain ⟨hci, hcat, hcc, hcs⟩ := hcond
              simp only [Option.some.injEq, Sum.inr.injEq, Sum.inl.injEq, Prod.mk.injEq] at ho
              obtain ⟨rfl, rfl, rfl⟩ := ho
              obtain ⟨⟨h1, h2, h3⟩, hmem, hcr, hw⟩ := zcall_ok hc
              simp only at h1 h2 h3
              subst h1; subst h2; subst hkd
              obtain ⟨hst, hal⟩ := ztake (base := base) (fa := fa) hdrop
              obtain ⟨q, hq⟩ : ∃ q, vwCl[ci]? = some q := by
                obtain ⟨r, hr, -⟩ := hH k _ (zwl_at hk)
                exact ⟨r, hr⟩
              have hrecv := va_recv hE.1 hH hq (zwl_at hk)
              unfold zcr at hcr
              simp only [reduceCtorEq, Nat.reduceEqDiff, if_false, if_true, Bool.and_eq_true, decide_eq_true_eq] at hcr
              obtain ⟨⟨⟨⟨⟨⟨⟨c1, c2⟩, c3⟩, c4⟩, c5⟩, c6⟩, c7⟩, d1⟩ := hcr
              refine ⟨c6, c7, hcc, hcs, fun r h1 nn hMet hsz => ?_⟩
              rw [hst]
              refine va_runSU (C := q.1) (As := ((st.take n).reverse).map (zsh base fa)) (hE.1.1 ci q hq).2 ⟨hx, hb, hml, hown, hts⟩ hMet (va_cwSU n hts (zgoodIn ?_) rfl rfl rfl ⟨d1, c5⟩ ⟨c1, c2⟩) ⟨zPc_blind, hrecv, fun U hU hW => ⟨rfl, hE.at hS hU hW, by rw [hU]; exact hH, by rw [hU]; exact hsz⟩⟩ rfl hal hl.1 rfl (lv_room (by rw [zcats]; exact hcat)) hd ⟨hcc, hcs⟩
              intro w hw1
              rcases List.mem_append.mp hw1 with h9 | h9
              · exact hw w h9
              · exact zws_in c6 w h9
            · cases ho
          · cases ho
        · cases ho
      · cases ho
    · cases ho
theorem zw_o : Cond.code objectInit ⟨#[0xb1]⟩ 1 none ∈ zwt := List.mem_filter.mpr ⟨zme1 (List.mem_of_getElem? (i := 23) rfl), rfl⟩
set_option maxHeartbeats 1000000 in
theorem zs_invokespecial {n0 : Nat} (X : zX p s m args meth c base fa D aC ro L0 M) (hz : zf M pc = some (.invokespecial n0)) {k : zC} (ho : zo ro M pc ls st h uc us (.invokespecial n0) = some (.inl k)) (hH : zH base fa D aC h H) (hS : va_S (fun q => base ≤ q) s.heap H locs) (hl : lv_has A (zN M) (zlm base fa ls)) (hL : h.length = L0 + uc) (kk : zKK p l e s m args below meth c base fa D aC Q L0 M (.inl k)) : W p l e (zrm M) s m args below meth c H locs uc us Q (F0 m pc A (st.map (zsh base fa))) := by
  obtain ⟨hx, hb, hml, hown, hts, hE, hin, hM, hs0⟩ := X
  obtain ⟨nl, hd, hnl⟩ := zf_spec hz
  have hnl := hnl.resolve_left (fun q => by cases q)
  subst hnl
  simp only [zo] at ho
  split at ho
  · next M' idx' ci' kd M1' n Mx ps hc =>
    split at ho
    · next hkd =>
      split at ho
      · next k0 st' =>
        split at ho
        · next hcat =>
          have hk := zgo_inj ho
          cases hk
          obtain ⟨⟨h1, h2, h3⟩, hmem, hcr, hw⟩ := zcall_ok hc
          simp only at h1 h2 h3
          subst h1; subst h2; subst hkd
          unfold zcr at hcr
          simp only [if_true, Bool.and_eq_true, decide_eq_true_eq] at hcr
          refine W.objInit (g := F0 m pc A (Value.ref (base + k0) :: st'.map (zsh base fa))) (rest := st'.map (zsh base fa)) hx hb hown (hts _ (hw (.methodLink (zy M').cls idx' objectInit) (by simp [zwd]))) (hts _ (hw (.instanceMethod objectInit) (by simp [zwd]))) (hts _ zw_o) rfl (by rw [hml]; exact hl.1) rfl hd hcr.1 ?_ (kk _ _ _ hH hS hl hL)
          have h9 := hcr.2
          rw [zcats]
          show 2 * 0 + _ + 12 ≤ _
          omega
        · cases ho
      · cases ho
    · split at ho
      · split at ho
        · split at ho
          · cases ho
          · cases ho
        · cases ho
      · cases ho
  · split at ho
    · split at ho
      · split at ho
        · split at ho
          · split at ho
            · cases ho
            · cases ho
          · cases ho
        · cases ho
      · cases ho
    · cases ho
set_option maxHeartbeats 1000000 in
theorem zs_invokestatic {n0 : Nat} (X : zX p s m args meth c base fa D aC ro L0 M) (hz : zf M pc = some (.invokestatic n0)) {k : zC} (ho : zo ro M pc ls st h uc us (.invokestatic n0) = some (.inl k)) (hH : zH base fa D aC h H) (hS : va_S (fun q => base ≤ q) s.heap H locs) (hl : lv_has A (zN M) (zlm base fa ls)) (hL : h.length = L0 + uc) (kk : zKK p l e s m args below meth c base fa D aC Q L0 M (.inl k)) : W p l e (zrm M) s m args below meth c H locs uc us Q (F0 m pc A (st.map (zsh base fa))) := by
  obtain ⟨hx, hb, hml, hown, hts, hE, hin, hM, hs0⟩ := X
  obtain ⟨nl, hd, hnl⟩ := zf_spec hz
  have hnl := hnl.resolve_left (fun q => by cases q)
  subst hnl
  simp only [zo] at ho
  split at ho
  · next M' idx' ci' kd M1' n Mx ps hc =>
    split at ho
    · split at ho
      · cases ho
      · cases ho
    · split at ho
      · next hkd =>
        obtain ⟨⟨h1, h2, h3⟩, hmem, hcr, hw⟩ := zcall_ok hc
        simp only at h1 h2 h3
        subst h1; subst h2; subst hkd
        unfold zcr at hcr
        simp only [reduceCtorEq, Nat.reduceEqDiff, if_false, if_true, Bool.and_eq_true, decide_eq_true_eq] at hcr
        split at ho
        · next nn dp a1 sp a0 st' =>
          split at ho
          · next q0 f q1 g hk0 hk1 =>
            split at ho
            · next hcond =>
              obtain ⟨e1, e2, e3, e4, e5, e6⟩ := hcond
              have hk := zgo_inj ho
              cases hk
              refine va_copyi hx hb (by rw [hml]; exact hl.1.symm) hown (hts _ (hw (.methodLink (zy M').cls idx' arraycopyName) (by simp [zwd]))) (hts _ (hw (.native arraycopyName) (by simp [zwd]))) (hts _ (hw (.static arraycopyName) (by simp [zwd]))) (hts _ (hw (.initialized "java/lang/System") (by simp [zwd]))) hE.1 hH (zwl_D h) hS a0 a1 0 0 (ty := .int) (zwl_at hk0) (zwl_at hk1) rfl rfl rfl e1 e2 e3 e4 e5 (fun _ _ => rfl) hcr.1 (by rw [zcats]; omega) hd (fun H1 locs1 hP1 _ hS1 => kk H1 locs1 A (zH.set (e1 := (.inl (0, q1, .inl (va_cpy f g sp.toNatClampNeg dp.toNatClampNeg nn.toNatClampNeg)))) hP1) hS1 hl (by rw [List.length_set]; exact hL))
            · cases ho
          · next q0 f q1 g hk0 hk1 =>
            split at ho
            · next hcond =>
              obtain ⟨e1, e2, e3, e4, e5, e6⟩ := hcond
              have hk := zgo_inj ho
              cases hk
              refine va_copyl hx hb (by rw [hml]; exact hl.1.symm) hown (hts _ (hw (.methodLink (zy M').cls idx' arraycopyName) (by simp [zwd]))) (hts _ (hw (.native arraycopyName) (by simp [zwd]))) (hts _ (hw (.static arraycopyName) (by simp [zwd]))) (hts _ (hw (.initialized "java/lang/System") (by simp [zwd]))) hE.1 hH (zwl_D h) hS a0 a1 1 1 (ty := .long) (zwl_at hk0) (zwl_at hk1) rfl rfl rfl e1 e2 e3 e4 e5 (fun _ _ => rfl) hcr.1 (by rw [zcats]; omega) hd (fun H1 locs1 hP1 _ hS1 => kk H1 locs1 A (zH.set (e1 := (.inl (1, q1, .inr (.inl (va_cpy f g sp.toNatClampNeg dp.toNatClampNeg nn.toNatClampNeg))))) hP1) hS1 hl (by rw [List.length_set]; exact hL))
            · cases ho
          · cases ho
        · cases ho
      · cases ho
  · cases ho
end ZCL
end
section
/-! ===== the end of a method ===== -/
def zEnd (M : Nat) (i : Instr) (st : List Value) (uc us : Nat) (r : Option Value) : Prop := (uc = (zrm M).cells ∧ us = (zrm M).slots) ∧ ((i = .ireturn ∧ ∃ v : Int32, st = [.int v] ∧ r = some (.int v) ∧ (zret M = some .int ∨ (zret M = some .boolean ∧ (v = 0 ∨ v = 1)))) ∨ (i = .lreturn ∧ ∃ v : Int64, st = [.long v] ∧ r = some (.long v) ∧ zret M = some .long) ∨ (i = .return_ ∧ st = [] ∧ r = none ∧ zret M = none))
section ZMN
variable {ro : UInt32 → Nat × (Nat → Int32)} {M pc : Nat} {ls : List (Nat × Value)} {st : List Value} {h : List va_E} {uc us : Nat}
theorem ze_ireturn {k : zK} (ho : zo ro M pc ls st h uc us .ireturn = some k) : ∃ r, k = .inr (.inr r) ∧ zEnd M .ireturn st uc us r := by
  simp only [zo] at ho
  split at ho
  · next v =>
    split at ho
    · next hr =>
      split at ho
      · next hc => exact ⟨_, (Option.some.inj ho).symm, hc, Or.inl ⟨rfl, v, rfl, rfl, Or.inl hr⟩⟩
      · cases ho
    · next hr =>
      split at ho
      · next hc => exact ⟨_, (Option.some.inj ho).symm, ⟨hc.1, hc.2.1⟩, Or.inl ⟨rfl, v, rfl, rfl, Or.inr ⟨hr, hc.2.2⟩⟩⟩
      · cases ho
    · cases ho
  · cases ho
theorem ze_lreturn {k : zK} (ho : zo ro M pc ls st h uc us .lreturn = some k) : ∃ r, k = .inr (.inr r) ∧ zEnd M .lreturn st uc us r := by
  simp only [zo] at ho
  split at ho
  · next v =>
    split at ho
    · next hr =>
      split at ho
      · next hc => exact ⟨_, (Option.some.inj ho).symm, hc, Or.inr (Or.inl ⟨rfl, v, rfl, rfl, hr⟩)⟩
      · cases ho
    · cases ho
  · cases ho
theorem ze_return {k : zK} (ho : zo ro M pc ls st h uc us .return_ = some k) : ∃ r, k = .inr (.inr r) ∧ zEnd M .return_ st uc us r := by
  simp only [zo] at ho
  split at ho
  · split at ho
    · next hr =>
      split at ho
      · next hc => exact ⟨_, (Option.some.inj ho).symm, hc, Or.inr (Or.inr ⟨rfl, rfl, rfl, hr⟩)⟩
      · cases ho
    · cases ho
  · cases ho
theorem zv_call {n0 : Nat} {k : zK} (ho : zo ro M pc ls st h uc us (.invokevirtual n0) = some k) : ∃ q, k = .inr (.inl q) := by
  simp only [zo] at ho
  repeat' split at ho
  all_goals first | cases ho; done | exact ⟨_, (Option.some.inj ho).symm⟩
theorem zv_static {n0 : Nat} {k : zK} (ho : zo ro M pc ls st h uc us (.invokestatic n0) = some k) : (∃ q, k = .inl q) ∨ ∃ q, k = .inr (.inl q) := by
  simp only [zo] at ho
  repeat' split at ho
  all_goals first | cases ho; done | exact Or.inr ⟨_, (Option.some.inj ho).symm⟩ | exact Or.inl ⟨_, zgo_inj ho⟩
theorem zv_special {n0 : Nat} {k : zK} (ho : zo ro M pc ls st h uc us (.invokespecial n0) = some k) : (∃ q, k = .inl q) ∨ ∃ q, k = .inr (.inl q) := by
  simp only [zo] at ho
  repeat' split at ho
  all_goals first | cases ho; done | exact Or.inr ⟨_, (Option.some.inj ho).symm⟩ | exact Or.inl ⟨_, zgo_inj ho⟩
end ZMN
section ZMAIN
variable {l : Launch} {base : Nat} {fa : UInt32 → Nat} {D : va_G} {aC : Nat → ClassId} {ro : UInt32 → Nat × (Nat → Int32)}
/-- what a run says of the machine -/
def zSays (l : Launch) (base : Nat) (fa : UInt32 → Nat) (D : va_G) (aC : Nat → ClassId) (ro : UInt32 → Nat × (Nat → Int32)) (M pc : Nat) (ls : List (Nat × Value)) (st : List Value) (h : List va_E) (uc us : Nat) (r : Option Value) (h1 : List va_E) : Prop :=
  ∀ {p : Program} {e : Env} {s : State} {m : MethodId} {args : Array Value} {below : List Frame} {meth : Method} {c : Code} {Q : State → Prop} {L0 : Nat} {H : Heap} {locs : List Loc} {A : Array Slot}, zX p s m args meth c base fa D aC ro L0 M → zH base fa D aC h H → va_S (fun q => base ≤ q) s.heap H locs → lv_has A (zN M) (zlm base fa ls) → h.length = L0 + uc →
    (∀ (i : Instr) (pc1 : Nat) (st1 : List Value) (uc1 us1 : Nat) (H1 : Heap) (locs1 : List Loc) (A1 : Array Slot), zf M pc1 = some i → zEnd M i st1 uc1 us1 r → zH base fa D aC h1 H1 → va_S (fun q => base ≤ q) s.heap H1 locs1 → h1.length = L0 + uc1 → W p l e (zrm M) s m args below meth c H1 locs1 uc1 us1 Q (F0 m pc1 A1 (st1.map (zsh base fa)))) →
    W p l e (zrm M) s m args below meth c H locs uc us Q (F0 m pc A (st.map (zsh base fa)))
theorem zlg (vs : List Value) : (lg_sl vs).length = (vs.map (fun v => v.category)).sum := by
  induction vs with
  | nil => rfl
  | cons v vs ih =>
    have e1 : lg_sl (v :: vs) = (if v.category = 2 then [.val v, .second] else [.val v]) ++ lg_sl vs := by simp [lg_sl]
    rw [e1, List.length_append, ih, List.map_cons, List.sum_cons]
    rcases lv_cat v with hc | hc <;> simp [hc]
/-- a run of a method's body from its entry is a contract -/
theorem zMet {M1 : Nat} {as : List Value} {h h1 : List va_E} {r : Option Value} (hM : M1 < 189) (hp : plainFor (zy M1) = true) (ha : (as.map (fun v => v.category)).sum ≤ zN M1) (IH : zSays l base fa D aC ro M1 0 (zargs 0 as) [] h 0 0 r h1) : Met l (zy M1) (zws M1) (zrm M1) (zPc base fa D aC ro as h) (zQc base fa D aC r h1 (h.length + (zrm M1).cells)) (zrm M1).cells (zrm M1).slots (fun q => base ≤ q) := by
  refine zMet_ofW (cc := zc M1) (maxL := zN M1) (ret := zret M1) hp rfl ?_
  intro p e s m args below meth c s₁ B hml hv
  obtain ⟨rfl, hE, hH, hsz⟩ := hv
  have hts0 := atoms_spec (ws := zws M1) B.pre
  have hown : s.vm.findClass (zy M1).cls = some m.cls := findClass_of_methodNamed B.named
  have hlocks := B.notSynchronized
  have hx := B.exec
  have hb := B.bytes
  have hr := B.returns
  have X : zX p s m ((as.map (zsh base fa)).toArray) meth c base fa D aC ro h.length M1 := ⟨hx, hb, hml, hown, fun w hw => hts0 w (List.mem_cons_of_mem _ hw), hE, fun hi => by
    have h9 : meth.name = (zy M1).name := (name_of_methodNamed B.named B.method).1
    rw [h9]
    simpa [zini] using hi, Nat.lt_of_lt_of_le hM (by decide), hsz⟩
  have hl := lv_entry (as.map (zsh base fa)) (n := zN M1) (by rw [zlg, zcats]; exact ha)
  rw [lg_entry_eq]
  rw [zargs_m] at hl
  generalize (lg_sl (as.map (zsh base fa)) ++ List.replicate (zN M1 - (lg_sl (as.map (zsh base fa))).length) Slot.unset).toArray = A at hl ⊢
  refine IH (Q := MQ below (zQc base fa D aC r h1 (h.length + (zrm M1).cells)) _ s (zrm M1).cells (zrm M1).slots (fun q => base ≤ q)) X hH va_S.rf hl rfl ?_
  intro i pc1 st1 uc1 us1 H1 locs1 A1 hz hend hH1 hS1 hL1
  obtain ⟨⟨rfl, rfl⟩, hend⟩ := hend
  obtain ⟨nl, hd, hnl⟩ := zf_spec hz
  rcases hend with ⟨rfl, v, rfl, rfl, hrt⟩ | ⟨rfl, v, rfl, rfl, hrt⟩ | ⟨rfl, rfl, rfl, hrt⟩
  · have hnl := hnl.resolve_left (fun q => by cases q)
    subst hnl
    rcases hrt with hrt | ⟨hrt, hv⟩
    · exact W.iret (v := v) hx hb (by rw [hr]; exact hrt) (fun t ht hW => ⟨⟨rfl, by rw [ht]; exact hH1, hL1⟩, hS1.F ht⟩) hS1.2.2 hd
    · refine W.zret (v := v) (ty := .boolean) hx hb (by rw [hr]; exact hrt) ?_ (fun t ht hW => ⟨⟨rfl, by rw [ht]; exact hH1, hL1⟩, hS1.F ht⟩) hS1.2.2 hd
      rcases hv with rfl | rfl
      · decide
      · decide
  · have hnl := hnl.resolve_left (fun q => by cases q)
    subst hnl
    exact W.lret (v := v) hx hb (by rw [hr]; exact hrt) (fun t ht hW => ⟨⟨rfl, by rw [ht]; exact hH1, hL1⟩, hS1.F ht⟩) hS1.2.2 hd
  · have hnl := hnl.resolve_left (fun q => by cases q)
    subst hnl
    exact W.vret hx hb (by rw [hr]; exact hrt) (fun t ht hW => ⟨⟨rfl, by rw [ht]; exact hH1, hL1⟩, hS1.F ht⟩) hS1.2.2 hd
set_option maxHeartbeats 2000000 in
/-- a run is the machine's -/
theorem zsnd : ∀ (n M pc : Nat) (ls : List (Nat × Value)) (st : List Value) (h : List va_E) (uc us : Nat) (r : Option Value) (h1 : List va_E), zr ro n M pc ls st h uc us = some (r, h1) → zSays l base fa D aC ro M pc ls st h uc us r h1 := by
  intro n
  induction n with
  | zero => intro M pc ls st h uc us r h1 hr; simp [zr] at hr
  | succ n ih =>
    intro M pc ls st h uc us r h1 hr p e s m args below meth c Q L0 H locs A X hH hS hl hL hend
    unfold zr at hr
    cases hz : zf M pc with
    | none => rw [hz] at hr; simp at hr
    | some i =>
      rw [hz] at hr
      simp only at hr
      cases ho : zo ro M pc ls st h uc us i with
      | none => rw [ho] at hr; simp at hr
      | some k =>
        rw [ho] at hr
        have kk : zKK p l e s m args below meth c base fa D aC Q L0 M k := by
          cases k with
          | inr q => trivial
          | inl q =>
            intro H1 locs1 A1 hH1 hS1 hl1 hL1
            exact ih M q.1 q.2.1 q.2.2.1 q.2.2.2.1 q.2.2.2.2.1 q.2.2.2.2.2 r h1 hr X hH1 hS1 hl1 hL1 hend
        have call : ∀ q, k = .inr (.inl q) → zCall p l e s m args below meth c base fa D aC ro M pc st h uc us H locs A q.1 q.2.1 q.2.2 → W p l e (zrm M) s m args below meth c H locs uc us Q (F0 m pc A (st.map (zsh base fa))) := by
          intro q hk hc
          subst hk
          simp only at hr
          split at hr
          · next ha =>
            split at hr
            · cases hr
            · next w hw =>
              obtain ⟨c1, c2, c3, c4, c5⟩ := hc
              refine zWsz X.2.2.2.2.2.2.2.2 hL hH hS (fun hsz => ?_)
              have hMet := zMet (as := q.2.1) c1 c2 ha (ih q.1 0 (zargs 0 q.2.1) [] h 0 0 w.1 w.2 hw)
              refine zcallW (c5 w.1 w.2 _ hMet hsz) hS (fun H1 locs1 hH1 hl1 hS1 => ?_)
              have h9 := ih M (pc + 3) ls (w.1.toList ++ q.2.2) w.2 (uc + (zrm q.1).cells) (us + (zrm q.1).slots) r h1 hr X hH1 hS1 hl (by rw [hl1, hL]; omega) hend
              have e9 : (w.1.toList ++ q.2.2).map (zsh base fa) = (w.1.map (zsh base fa)).toList ++ q.2.2.map (zsh base fa) := by
                cases w.1 <;> rfl
              rw [e9] at h9
              exact h9
          · cases hr
        cases i with
        | iconst _ => exact zs_iconst X hz ho hH hS hl hL kk
        | bipush _ => exact zs_bipush X hz ho hH hS hl hL kk
        | sipush _ => exact zs_sipush X hz ho hH hS hl hL kk
        | lconst _ => exact zs_lconst X hz ho hH hS hl hL kk
        | iload_n _ => exact zs_iload_n X hz ho hH hS hl hL kk
        | iload _ => exact zs_iload X hz ho hH hS hl hL kk
        | lload_n _ => exact zs_lload_n X hz ho hH hS hl hL kk
        | lload _ => exact zs_lload X hz ho hH hS hl hL kk
        | aload_n _ => exact zs_aload_n X hz ho hH hS hl hL kk
        | aload _ => exact zs_aload X hz ho hH hS hl hL kk
        | istore_n _ => exact zs_istore_n X hz ho hH hS hl hL kk
        | istore _ => exact zs_istore X hz ho hH hS hl hL kk
        | lstore_n _ => exact zs_lstore_n X hz ho hH hS hl hL kk
        | lstore _ => exact zs_lstore X hz ho hH hS hl hL kk
        | astore_n _ => exact zs_astore_n X hz ho hH hS hl hL kk
        | astore _ => exact zs_astore X hz ho hH hS hl hL kk
        | iinc _ _ => exact zs_iinc X hz ho hH hS hl hL kk
        | iadd => exact zs_iadd X hz ho hH hS hl hL kk
        | isub => exact zs_isub X hz ho hH hS hl hL kk
        | imul => exact zs_imul X hz ho hH hS hl hL kk
        | iand => exact zs_iand X hz ho hH hS hl hL kk
        | ior => exact zs_ior X hz ho hH hS hl hL kk
        | ixor => exact zs_ixor X hz ho hH hS hl hL kk
        | idiv => exact zs_idiv X hz ho hH hS hl hL kk
        | irem => exact zs_irem X hz ho hH hS hl hL kk
        | ineg => exact zs_ineg X hz ho hH hS hl hL kk
        | ishl => exact zs_ishl X hz ho hH hS hl hL kk
        | ishr => exact zs_ishr X hz ho hH hS hl hL kk
        | ladd => exact zs_ladd X hz ho hH hS hl hL kk
        | lsub => exact zs_lsub X hz ho hH hS hl hL kk
        | lmul => exact zs_lmul X hz ho hH hS hl hL kk
        | lor => exact zs_lor X hz ho hH hS hl hL kk
        | ldiv => exact zs_ldiv X hz ho hH hS hl hL kk
        | lrem => exact zs_lrem X hz ho hH hS hl hL kk
        | lneg => exact zs_lneg X hz ho hH hS hl hL kk
        | lshl => exact zs_lshl X hz ho hH hS hl hL kk
        | lcmp => exact zs_lcmp X hz ho hH hS hl hL kk
        | i2l => exact zs_i2l X hz ho hH hS hl hL kk
        | l2i => exact zs_l2i X hz ho hH hS hl hL kk
        | dup => exact zs_dup X hz ho hH hS hl hL kk
        | pop => exact zs_pop X hz ho hH hS hl hL kk
        | dup2 => exact zs_dup2 X hz ho hH hS hl hL kk
        | ifnonnull _ => exact zs_ifnonnull X hz ho hH hS hl hL kk
        | goto _ => exact zs_goto X hz ho hH hS hl hL kk
        | tableswitch _ _ _ _ => exact zs_tableswitch X hz ho hH hS hl hL kk
        | lookupswitch _ _ => exact zs_lookupswitch X hz ho hH hS hl hL kk
        | ldc _ => exact zs_ldc X hz ho hH hS hl hL kk
        | ldc2_w _ => exact zs_ldc2_w X hz ho hH hS hl hL kk
        | getfield _ => exact zs_getfield X hz ho hH hS hl hL kk
        | putfield _ => exact zs_putfield X hz ho hH hS hl hL kk
        | new _ => exact zs_new X hz ho hH hS hl hL kk
        | newarray _ => exact zs_newarray X hz ho hH hS hl hL kk
        | anewarray _ => exact zs_anewarray X hz ho hH hS hl hL kk
        | iaload => exact zs_iaload X hz ho hH hS hl hL kk
        | baload => exact zs_baload X hz ho hH hS hl hL kk
        | laload => exact zs_laload X hz ho hH hS hl hL kk
        | aaload => exact zs_aaload X hz ho hH hS hl hL kk
        | iastore => exact zs_iastore X hz ho hH hS hl hL kk
        | bastore => exact zs_bastore X hz ho hH hS hl hL kk
        | lastore => exact zs_lastore X hz ho hH hS hl hL kk
        | aastore => exact zs_aastore X hz ho hH hS hl hL kk
        | arraylength => exact zs_arraylength X hz ho hH hS hl hL kk
        | getstatic _ => exact zs_getstatic X hz ho hH hS hl hL kk
        | ifCond cd off =>
          cases cd with
          | eq => exact zs_ifCond_eq X hz ho hH hS hl hL kk
          | ne => exact zs_ifCond_ne X hz ho hH hS hl hL kk
          | lt => exact zs_ifCond_lt X hz ho hH hS hl hL kk
          | ge => exact zs_ifCond_ge X hz ho hH hS hl hL kk
          | gt => exact zs_ifCond_gt X hz ho hH hS hl hL kk
          | le => exact zs_ifCond_le X hz ho hH hS hl hL kk
        | if_icmp cd off =>
          cases cd with
          | eq => exact zs_if_icmp_eq X hz ho hH hS hl hL kk
          | ne => exact zs_if_icmp_ne X hz ho hH hS hl hL kk
          | lt => exact zs_if_icmp_lt X hz ho hH hS hl hL kk
          | ge => exact zs_if_icmp_ge X hz ho hH hS hl hL kk
          | gt => exact zs_if_icmp_gt X hz ho hH hS hl hL kk
          | le => exact zs_if_icmp_le X hz ho hH hS hl hL kk
        | invokevirtual n0 =>
          obtain ⟨q, rfl⟩ := zv_call ho
          exact call q rfl (zc_virtual X hz ho hH hS hl)
        | invokestatic n0 =>
          rcases zv_static ho with ⟨q, rfl⟩ | ⟨q, rfl⟩
          · exact zs_invokestatic X hz ho hH hS hl hL kk
          · exact call q rfl (zc_static X hz ho hH hS hl)
        | invokespecial n0 =>
          rcases zv_special ho with ⟨q, rfl⟩ | ⟨q, rfl⟩
          · exact zs_invokespecial X hz ho hH hS hl hL kk
          · exact call q rfl (zc_special X hz ho hH hS hl)
        | ireturn =>
          obtain ⟨r2, rfl, he⟩ := ze_ireturn ho
          simp only [Option.some.injEq, Prod.mk.injEq] at hr
          obtain ⟨rfl, rfl⟩ := hr
          exact hend _ pc st uc us H locs A hz he hH hS hL
        | lreturn =>
          obtain ⟨r2, rfl, he⟩ := ze_lreturn ho
          simp only [Option.some.injEq, Prod.mk.injEq] at hr
          obtain ⟨rfl, rfl⟩ := hr
          exact hend _ pc st uc us H locs A hz he hH hS hL
        | return_ =>
          obtain ⟨r2, rfl, he⟩ := ze_return ho
          simp only [Option.some.injEq, Prod.mk.injEq] at hr
          obtain ⟨rfl, rfl⟩ := hr
          exact hend _ pc st uc us H locs A hz he hH hS hL
        | _ => simp [zo] at ho
end ZMAIN
end
section
/-! THE CLAIM OUT OF ONE WALK OF THE LAW'S BODY. Your part is whole_start (and what it stands on); all else here is the same for every law, but numbers. -/
def R_law : String := "HeronsBenchLaw"
def lw_P (b : Addr) (xs : List Int32) (args : Array Value) (s : State) : Prop := args = #[.ref b] ∧ s.IntsAt b xs ∧ xs.length ≤ 6 ∧ (Jvm.Cond.and given_1 narrow_1).before args s = true
def lw_Q (_ : Array Value) (s : State) (o : Outcome) (t : State) : Prop := o = .returned (some (.int 1)) ∧ Framed s o t [] 82 7398
def lw_Z (below : List Frame) (a : Array Value) (s : State) : State → Prop := fun t => ∃ o, t.status = .running ∧ Ended t below o ∧ lw_Q a s o t
/-- the law's own end, with 1 on the stack, nothing written that was there before, its room as the claim has it -/
theorem lw_ret {p : Program} {l : Launch} {e : Env} {s : State} {m : MethodId} {below : List Frame} {meth : Method} {c : Code} {b : Nat} (hx : p.tables.exec = Jvm.exec) (hb : c.code = code) (hr : meth.sig.returnType = ret) (hlocks : meth.locks = false) {pc : Nat} {H : Heap} {ls : Array Slot} (hdg : decode code pc = .ok (.ireturn, 1)) : W p l e room_1 s m #[Value.ref b] below meth c H [] 82 7398 (lw_Z below #[Value.ref b] s) (F0 m pc ls [.int 1]) := by
  intro T hT X
  obtain ⟨fs, hret, hrun, hended, hW, hframe⟩ := X.leave (v := some (.int 1)) (hlocks := hlocks) (fun h => by rw [hr] at h; cases h)
  have hmeth' : T.vm.method? m = some meth := X.method'
  refine ⟨T.setFrames fs, ?_, .returned (some (.int 1)), hrun, hended, rfl, ⟨_, rfl⟩, hW, hframe⟩
  jvm_step X.here [X.here.top, hx, hb, hdg, hmeth', hr, ret, narrow_b1]
  (try refine ⟨rfl, ?_⟩); (try refine ⟨rfl, ?_⟩)
  first | (intro acts; rw [hret _ acts rfl rfl rfl]) | rw [hret _ _ rfl rfl rfl]
  exact Steps.refl _
/-- what holds at the law's entry: the machine, the code, the tables' words (any of lw_tbl by 'hts w (by decide +kernel)'), the script of L ints xs at the cell b, what the Statement gives of the start (any of its parts by flat_of_before) -/
def lw_At (p : Program) (s : State) (m : MethodId) (meth : Method) (c : Code) (b L : Nat) (xs : Nat → Int32) : Prop :=
  p.tables.exec = Jvm.exec ∧ c.code = code ∧ meth.sig.returnType = ret ∧ c.maxLocals = 4 ∧ s.vm.findClass R_law = some m.cls ∧ (∀ w ∈ lw_tbl, w.before #[Value.ref b] s = true) ∧ va_X b L xs s s.heap ∧ b < s.heap.size ∧ meth.locks = false ∧ (Jvm.Cond.and given_1 narrow_1).before #[Value.ref b] s = true
/-- the arrays that are only read: 1 the KINDS above, else the script -/
def zka (j : Nat) : Int32 := if j = 0 then -1 else if j = 4 then 3 else 0
def zro (L : Nat) (xs : Nat → Int32) : UInt32 → Nat × (Nat → Int32) := fun x => if x = 1 then (5, zka) else (L, xs)
theorem zstart {p : Program} {s : State} {m : MethodId} {meth : Method} {c : Code} {b L : Nat} {xs : Nat → Int32} (C0 : lw_At p s m meth c b L xs) (hL31 : L < 2 ^ 31) : ∃ (fa : UInt32 → Nat) (D : va_G) (aC : Nat → ClassId), fa 0 = b ∧ zX p s m #[Value.ref b] meth c s.heap.size fa D aC (zro L xs) 0 189 := by
  obtain ⟨hx, hb, hr, hml, hown, hts, hX, hbl, hlocks, hgv⟩ := C0
  have hat : ∀ {i : Nat} {w : Cond}, lw_tbl[i]? = some w → w.before #[Value.ref b] s = true := fun h => hts _ (List.mem_of_getElem? h)
  obtain ⟨c0, iS0, hKn0⟩ := u_known (C := RX0) (T := TX0) (N := 6) (n := 6) hts (fun w hw => (List.mem_filter.mp (zuw0 0 (by decide) _ rfl w hw)).1) (hat (i := 321) (by decide +kernel))
  obtain ⟨c1, iS1, hKn1⟩ := u_known (C := RX1) (T := TX1) (N := 1) (n := 1) hts (fun w hw => (List.mem_filter.mp (zuw0 1 (by decide) _ rfl w hw)).1) (hat (i := 396) (by decide +kernel))
  obtain ⟨c2, iS2, hKn2⟩ := u_known (C := RX2) (T := TX2) (N := 1) (n := 1) hts (fun w hw => (List.mem_filter.mp (zuw0 2 (by decide) _ rfl w hw)).1) (hat (i := 388) (by decide +kernel))
  obtain ⟨c3, iS3, hKn3⟩ := u_known (C := RX3) (T := TX3) (N := 5) (n := 5) hts (fun w hw => (List.mem_filter.mp (zuw0 3 (by decide) _ rfl w hw)).1) (hat (i := 264) (by decide +kernel))
  obtain ⟨c4, iS4, hKn4⟩ := u_known (C := RX4) (T := TX4) (N := 11) (n := 11) hts (fun w hw => (List.mem_filter.mp (zuw0 4 (by decide) _ rfl w hw)).1) (hat (i := 84) (by decide +kernel))
  obtain ⟨c5, iS5, hKn5⟩ := u_known (C := RX5) (T := TX5) (N := 9) (n := 9) hts (fun w hw => (List.mem_filter.mp (zuw0 5 (by decide) _ rfl w hw)).1) (hat (i := 287) (by decide +kernel))
  obtain ⟨c6, iS6, hKn6⟩ := u_known (C := RX6) (T := TX6) (N := 1) (n := 1) hts (fun w hw => (List.mem_filter.mp (zuw0 6 (by decide) _ rfl w hw)).1) (hat (i := 372) (by decide +kernel))
  obtain ⟨c7, iS7, hKn7⟩ := u_known (C := RX7) (T := TX7) (N := 1) (n := 1) hts (fun w hw => (List.mem_filter.mp (zuw0 7 (by decide) _ rfl w hw)).1) (hat (i := 380) (by decide +kernel))
  obtain ⟨c8, iS8, hKn8⟩ := u_known (C := RX8) (T := TX8) (N := 1) (n := 1) hts (fun w hw => (List.mem_filter.mp (zuw0 8 (by decide) _ rfl w hw)).1) (hat (i := 354) (by decide +kernel))
  obtain ⟨c9, iS9, hKn9⟩ := u_known (C := RX9) (T := TX9) (N := 10) (n := 10) hts (fun w hw => (List.mem_filter.mp (zuw0 9 (by decide) _ rfl w hw)).1) (hat (i := 154) (by decide +kernel))
  obtain ⟨c10, iS10, hKn10⟩ := u_known (C := RX10) (T := TX10) (N := 13) (n := 13) hts (fun w hw => (List.mem_filter.mp (zuw0 10 (by decide) _ rfl w hw)).1) (hat (i := 148) (by decide +kernel))
  obtain ⟨c11, iS11, hKn11⟩ := u_known (C := RX11) (T := TX11) (N := 8) (n := 8) hts (fun w hw => (List.mem_filter.mp (zuw0 11 (by decide) _ rfl w hw)).1) (hat (i := 76) (by decide +kernel))
  obtain ⟨c12, iS12, hKn12⟩ := u_known (C := RX12) (T := TX12) (N := 55) (n := 55) hts (fun w hw => (List.mem_filter.mp (zuw0 12 (by decide) _ rfl w hw)).1) (hat (i := 915) (by decide +kernel))
  obtain ⟨dC, dI, hKc⟩ : ∃ (dC : Nat → ClassId) (dI : Nat → Nat → Nat), ∀ (k : Nat) (q : vw_C), vwCl[k]? = some q → u_Kn s q.1 q.2.1 q.2.2 (dC k) (dI k) := by
    refine ⟨fun k => if k = 0 then c0 else if k = 1 then c1 else if k = 2 then c2 else if k = 3 then c3 else if k = 4 then c4 else if k = 5 then c5 else if k = 6 then c6 else if k = 7 then c7 else if k = 8 then c8 else if k = 9 then c9 else if k = 10 then c10 else if k = 11 then c11 else c12, fun k => if k = 0 then iS0 else if k = 1 then iS1 else if k = 2 then iS2 else if k = 3 then iS3 else if k = 4 then iS4 else if k = 5 then iS5 else if k = 6 then iS6 else if k = 7 then iS7 else if k = 8 then iS8 else if k = 9 then iS9 else if k = 10 then iS10 else if k = 11 then iS11 else iS12, ?_⟩
    intro k q hq
    have hk := (List.getElem?_eq_some_iff.mp hq).1
    match k, hq with
    | 0, hq => cases hq; exact hKn0
    | 1, hq => cases hq; exact hKn1
    | 2, hq => cases hq; exact hKn2
    | 3, hq => cases hq; exact hKn3
    | 4, hq => cases hq; exact hKn4
    | 5, hq => cases hq; exact hKn5
    | 6, hq => cases hq; exact hKn6
    | 7, hq => cases hq; exact hKn7
    | 8, hq => cases hq; exact hKn8
    | 9, hq => cases hq; exact hKn9
    | 10, hq => cases hq; exact hKn10
    | 11, hq => cases hq; exact hKn11
    | 12, hq => cases hq; exact hKn12
    | k + 13, hq => simp [vwCl] at hq
  obtain ⟨cI, kI, pI, i1, i2, i3⟩ := Cond.arrayClass_spec (hat (i := 146) (w := .arrayClass .int) (by decide +kernel))
  obtain ⟨cJ, kJ, pJ, j1, j2, j3⟩ := Cond.arrayClass_spec (hat (i := 213) (w := .arrayClass .long) (by decide +kernel))
  obtain ⟨cZ, kZ, pZ, z1, z2, z3⟩ := Cond.arrayClass_spec (hat (i := 1086) (w := .arrayClass .boolean) (by decide +kernel))
  have hAO : va_AO RX8 s := va_AO.of (hat (i := 353) (w := .arrayOver (.object RX8)) (by decide +kernel))
  obtain ⟨pV, cV, kV, v1, v2, v3, v4, v5⟩ := Cond.arrayOver_spec hAO
  have hs := flat_of_before _ hgv
  have hA : ∀ a : Nat, a < s.heap.size → ¬ (fun q => s.heap.size ≤ q) a := fun a h => Nat.not_le.mpr h
  have hk1 : (Term.length (.static "HeronsBench" "KIND_ABOVE" "[I")).eval #[Value.ref b] s none [] s = some (.int (Int32.ofNat 5)) := va_eqt (hs (.eq (.length (.static "HeronsBench" "KIND_ABOVE" "[I")) (.int 5)) (by decide +kernel))
  have hk2 : ∀ j : Nat, j < 5 → (Term.elem (.static "HeronsBench" "KIND_ABOVE" "[I") (.int (Int32.ofNat j))).eval #[Value.ref b] s none [] s = some (.int (zka j)) := by
    intro j hj
    match j, hj with
    | 0, _ => exact va_eqt (hs (.eq (.elem (.static "HeronsBench" "KIND_ABOVE" "[I") (.int 0)) (.int (-1))) (by decide +kernel))
    | 1, _ => exact va_eqt (hs (.eq (.elem (.static "HeronsBench" "KIND_ABOVE" "[I") (.int 1)) (.int 0)) (by decide +kernel))
    | 2, _ => exact va_eqt (hs (.eq (.elem (.static "HeronsBench" "KIND_ABOVE" "[I") (.int 2)) (.int 0)) (by decide +kernel))
    | 3, _ => exact va_eqt (hs (.eq (.elem (.static "HeronsBench" "KIND_ABOVE" "[I") (.int 3)) (.int 0)) (by decide +kernel))
    | 4, _ => exact va_eqt (hs (.eq (.elem (.static "HeronsBench" "KIND_ABOVE" "[I") (.int 4)) (.int 3)) (by decide +kernel))
  obtain ⟨kt, hkt, hT⟩ := va_Tof (N := 5) (f := fun j => .int (zka j)) (A := fun q => s.heap.size ≤ q) (by decide) (hs (.arrayOf (.static "HeronsBench" "KIND_ABOVE" "[I") .int) (by decide +kernel)) hk1 hk2 hA
  have hZ : va_Z RX11 "KIND_ABOVE" "[I" (.ref kt) (fun q => s.heap.size ≤ q) s s.heap := va_Zref (hat (i := 897) (w := .laysStatic RX11 "KIND_ABOVE" "[I") (by decide +kernel)) (hat (i := 60) (w := .initialized RX11) (by decide +kernel)) hkt hA
  refine ⟨fun x => if x = 1 then kt else b, (dC, dI), fun k => if k = 0 then cI else if k = 1 then cJ else if k = 2 then cZ else cV, rfl, hx, hb, hml, hown, fun w hw => hts w (List.mem_filter.mp hw).1, ⟨⟨hKc, ?_⟩, ?_, hAO, ?_, ?_, hZ, Nat.le_refl _⟩, fun h => absurd h (by decide +kernel), by decide, rfl⟩
  · intro k q hq
    match k, hq with
    | 0, hq => cases hq; exact ⟨fun n z => ⟨fun k h => (by cases h), kI, i2, pI, i3⟩, i1⟩
    | 1, hq => cases hq; exact ⟨fun n z => ⟨fun k h => (by cases h), kJ, j2, pJ, j3⟩, j1⟩
    | 2, hq => cases hq; exact ⟨fun n z => ⟨fun k h => (by cases h), kZ, z2, pZ, z3⟩, z1⟩
    | 3, hq => cases hq; exact ⟨fun n z => ⟨fun k h => (by cases h), kV, v3, pV, v4⟩, kV, pV, v3, v4, v1, v5⟩
    | k + 4, hq => simp at hq
  · intro w hw
    have h1 : ∀ w ∈ znest, w ∈ lw_tbl := by
      intro w hw
      obtain ⟨k, hk⟩ := List.getElem?_of_mem hw
      have h2 : ([85, 155, 265, 288, 322, 518, 526, 530, 777, 778].map (fun i => lw_tbl[i]?))[k]? = some (some w) := by rw [znest_at, List.getElem?_map, hk]; rfl
      rw [List.getElem?_map] at h2
      cases hi : ([85, 155, 265, 288, 322, 518, 526, 530, 777, 778] : List Nat)[k]? with
      | none => rw [hi] at h2; cases h2
      | some i => rw [hi] at h2; exact List.mem_of_getElem? (Option.some.inj h2)
    have h3 := hts w (h1 w hw)
    simp only [znest, List.mem_cons, List.not_mem_nil, or_false] at hw
    rcases hw with rfl | rfl | rfl | rfl | rfl | rfl | rfl | rfl | rfl | rfl <;> exact va_Nw.of rfl h3
  · intro C hC
    simp only [List.mem_cons, List.not_mem_nil, or_false] at hC
    rcases hC with rfl | rfl | rfl | rfl
    · exact va_Nw.of rfl (hat (i := 1352) (w := .castable RX6 RX8) (by decide +kernel))
    · exact va_Nw.of rfl (hat (i := 1353) (w := .castable RX7 RX8) (by decide +kernel))
    · exact va_Nw.of rfl (hat (i := 1354) (w := .castable RX2 RX8) (by decide +kernel))
    · exact va_Nw.of rfl (hat (i := 1355) (w := .castable RX1 RX8) (by decide +kernel))
  · intro x
    by_cases h1 : x = 1
    · simp only [zro, if_pos h1]
      exact hT
    · simp only [zro, if_neg h1]
      obtain ⟨scr, g1, g2, g3, g4, g5⟩ := hX
      exact ⟨scr, g1, g2, g3, Nat.le_of_eq g4.symm, by rw [g4] <;> rfl, g5, Nat.not_le.mpr hbl⟩
/-- THE LAW, from its entry, out of the interpreter's run -/
theorem zwhole {p : Program} {e : Env} {s : State} {m : MethodId} {below : List Frame} {meth : Method} {c : Code} (l : Launch) {b L : Nat} {xs : Nat → Int32} (C0 : lw_At p s m meth c b L xs) (hL31 : L < 2 ^ 31) (hrun : ∃ (n : Nat) (h1 : List va_E), zr (zro L xs) n 189 0 [(0, .float 0)] [] [] 0 0 = some (some (.int 1), h1)) : W p l e room_1 s m #[Value.ref b] below meth c s.heap [] 0 0 (lw_Z below #[Value.ref b] s) (entryFrame m ([Value.ref b] : List Value).toArray 4) := by
  obtain ⟨fa, D, aC, hfa, X⟩ := zstart C0 hL31
  obtain ⟨n, h1, hn⟩ := hrun
  obtain ⟨hx, hb, hr, hml, hown, hts, hX, hbl, hlocks, hgv⟩ := id C0
  have hl := lv_entry ([.ref b]) (n := 4) (Nat.le_of_ble_eq_true rfl)
  rw [lg_entry_eq]
  generalize (lg_sl ([.ref b]) ++ List.replicate (4 - (lg_sl ([.ref b])).length) Slot.unset).toArray = A at hl ⊢
  have hl : lv_has A (zN 189) (zlm s.heap.size fa [(0, .float 0)]) := by
    have e1 : zlm s.heap.size fa [(0, .float 0)] = [(0, .ref b)] := by
      show [(0, Value.ref (fa 0))] = _
      rw [hfa]
    rw [e1]
    exact hl
  refine zsnd (ro := zro L xs) n 189 0 [(0, .float 0)] [] [] 0 0 (some (.int 1)) h1 hn (Q := lw_Z below #[Value.ref b] s) X (fun k q hq => by simp [zwl] at hq) va_S.rf hl rfl ?_
  intro i pc1 st1 uc1 us1 H1 locs1 A1 hz hend hH1 hS1 hL1
  obtain ⟨⟨rfl, rfl⟩, hend⟩ := hend
  obtain ⟨nl, hd, hnl⟩ := zf_spec hz
  rcases hend with ⟨rfl, v, rfl, hv, hrt⟩ | ⟨rfl, v, rfl, hv, hrt⟩ | ⟨rfl, rfl, hv, hrt⟩
  · have hnl := hnl.resolve_left (fun q => by cases q)
    subst hnl
    cases hv
    refine va_forget (fun q hq => hS1.2.2 q hq) ?_
    exact lw_ret hx hb hr hlocks hd
  · cases hv
  · cases hv
end
