theorem cf166_0 : zf 166 0 = some (.aload_n 0) ∧ zf 166 1 = some (.iconst 1) ∧ zf 166 2 = some (.putfield 58) ∧ zf 166 5 = some (.aload_n 0) ∧ zf 166 6 = some (.aload_n 0) ∧ zf 166 7 = some (.getfield 249) ∧ zf 166 10 = some (.putfield 40) ∧ zf 166 13 = some (.aload_n 0) ∧ zf 166 14 = some (.aload_n 0) ∧ zf 166 15 = some (.getfield 252) ∧ zf 166 18 = some (.putfield 172) ∧ zf 166 21 = some (.aload_n 0) ∧ zf 166 22 = some (.aload_n 0) ∧ zf 166 23 = some (.getfield 255) ∧ zf 166 26 = some (.putfield 175) ∧ zf 166 29 = some (.aload_n 0) := by decide +kernel
theorem f166_0 : zf 166 0 = some (.aload_n 0) := cf166_0.1
theorem f166_1 : zf 166 1 = some (.iconst 1) := cf166_0.2.1
theorem f166_2 : zf 166 2 = some (.putfield 58) := cf166_0.2.2.1
theorem f166_5 : zf 166 5 = some (.aload_n 0) := cf166_0.2.2.2.1
theorem f166_6 : zf 166 6 = some (.aload_n 0) := cf166_0.2.2.2.2.1
theorem f166_7 : zf 166 7 = some (.getfield 249) := cf166_0.2.2.2.2.2.1
theorem f166_10 : zf 166 10 = some (.putfield 40) := cf166_0.2.2.2.2.2.2.1
theorem f166_13 : zf 166 13 = some (.aload_n 0) := cf166_0.2.2.2.2.2.2.2.1
theorem f166_14 : zf 166 14 = some (.aload_n 0) := cf166_0.2.2.2.2.2.2.2.2.1
theorem f166_15 : zf 166 15 = some (.getfield 252) := cf166_0.2.2.2.2.2.2.2.2.2.1
theorem f166_18 : zf 166 18 = some (.putfield 172) := cf166_0.2.2.2.2.2.2.2.2.2.2.1
theorem f166_21 : zf 166 21 = some (.aload_n 0) := cf166_0.2.2.2.2.2.2.2.2.2.2.2.1
theorem f166_22 : zf 166 22 = some (.aload_n 0) := cf166_0.2.2.2.2.2.2.2.2.2.2.2.2.1
theorem f166_23 : zf 166 23 = some (.getfield 255) := cf166_0.2.2.2.2.2.2.2.2.2.2.2.2.2.1
theorem f166_26 : zf 166 26 = some (.putfield 175) := cf166_0.2.2.2.2.2.2.2.2.2.2.2.2.2.2.1
theorem f166_29 : zf 166 29 = some (.aload_n 0) := cf166_0.2.2.2.2.2.2.2.2.2.2.2.2.2.2.2
theorem cf166_30 : zf 166 30 = some (.aload_n 0) ∧ zf 166 31 = some (.getfield 258) ∧ zf 166 34 = some (.putfield 178) ∧ zf 166 37 = some (.aload_n 0) ∧ zf 166 38 = some (.aload_n 0) ∧ zf 166 39 = some (.getfield 261) ∧ zf 166 42 = some (.putfield 183) ∧ zf 166 45 = some (.iconst 0) ∧ zf 166 46 = some (.istore_n 1) ∧ zf 166 47 = some (.iload_n 1) ∧ zf 166 48 = some (.bipush 8) ∧ zf 166 50 = some (.if_icmp .ge 45) ∧ zf 166 53 = some (.aload_n 0) ∧ zf 166 54 = some (.getfield 44) ∧ zf 166 57 = some (.iload_n 1) ∧ zf 166 58 = some (.aload_n 0) := by decide +kernel
theorem f166_30 : zf 166 30 = some (.aload_n 0) := cf166_30.1
theorem f166_31 : zf 166 31 = some (.getfield 258) := cf166_30.2.1
theorem f166_34 : zf 166 34 = some (.putfield 178) := cf166_30.2.2.1
theorem f166_37 : zf 166 37 = some (.aload_n 0) := cf166_30.2.2.2.1
theorem f166_38 : zf 166 38 = some (.aload_n 0) := cf166_30.2.2.2.2.1
theorem f166_39 : zf 166 39 = some (.getfield 261) := cf166_30.2.2.2.2.2.1
theorem f166_42 : zf 166 42 = some (.putfield 183) := cf166_30.2.2.2.2.2.2.1
theorem f166_45 : zf 166 45 = some (.iconst 0) := cf166_30.2.2.2.2.2.2.2.1
theorem f166_46 : zf 166 46 = some (.istore_n 1) := cf166_30.2.2.2.2.2.2.2.2.1
theorem f166_47 : zf 166 47 = some (.iload_n 1) := cf166_30.2.2.2.2.2.2.2.2.2.1
theorem f166_48 : zf 166 48 = some (.bipush 8) := cf166_30.2.2.2.2.2.2.2.2.2.2.1
theorem f166_50 : zf 166 50 = some (.if_icmp .ge 45) := cf166_30.2.2.2.2.2.2.2.2.2.2.2.1
theorem f166_53 : zf 166 53 = some (.aload_n 0) := cf166_30.2.2.2.2.2.2.2.2.2.2.2.2.1
theorem f166_54 : zf 166 54 = some (.getfield 44) := cf166_30.2.2.2.2.2.2.2.2.2.2.2.2.2.1
theorem f166_57 : zf 166 57 = some (.iload_n 1) := cf166_30.2.2.2.2.2.2.2.2.2.2.2.2.2.2.1
theorem f166_58 : zf 166 58 = some (.aload_n 0) := cf166_30.2.2.2.2.2.2.2.2.2.2.2.2.2.2.2
theorem cf166_59 : zf 166 59 = some (.getfield 96) ∧ zf 166 62 = some (.iload_n 1) ∧ zf 166 63 = some (.laload) ∧ zf 166 64 = some (.lastore) ∧ zf 166 65 = some (.aload_n 0) ∧ zf 166 66 = some (.getfield 52) ∧ zf 166 69 = some (.iload_n 1) ∧ zf 166 70 = some (.aload_n 0) ∧ zf 166 71 = some (.getfield 102) ∧ zf 166 74 = some (.iload_n 1) ∧ zf 166 75 = some (.baload) ∧ zf 166 76 = some (.bastore) ∧ zf 166 77 = some (.aload_n 0) ∧ zf 166 78 = some (.getfield 55) ∧ zf 166 81 = some (.iload_n 1) ∧ zf 166 82 = some (.aload_n 0) := by decide +kernel
theorem f166_59 : zf 166 59 = some (.getfield 96) := cf166_59.1
theorem f166_62 : zf 166 62 = some (.iload_n 1) := cf166_59.2.1
theorem f166_63 : zf 166 63 = some (.laload) := cf166_59.2.2.1
theorem f166_64 : zf 166 64 = some (.lastore) := cf166_59.2.2.2.1
theorem f166_65 : zf 166 65 = some (.aload_n 0) := cf166_59.2.2.2.2.1
theorem f166_66 : zf 166 66 = some (.getfield 52) := cf166_59.2.2.2.2.2.1
theorem f166_69 : zf 166 69 = some (.iload_n 1) := cf166_59.2.2.2.2.2.2.1
theorem f166_70 : zf 166 70 = some (.aload_n 0) := cf166_59.2.2.2.2.2.2.2.1
theorem f166_71 : zf 166 71 = some (.getfield 102) := cf166_59.2.2.2.2.2.2.2.2.1
theorem f166_74 : zf 166 74 = some (.iload_n 1) := cf166_59.2.2.2.2.2.2.2.2.2.1
theorem f166_75 : zf 166 75 = some (.baload) := cf166_59.2.2.2.2.2.2.2.2.2.2.1
theorem f166_76 : zf 166 76 = some (.bastore) := cf166_59.2.2.2.2.2.2.2.2.2.2.2.1
theorem f166_77 : zf 166 77 = some (.aload_n 0) := cf166_59.2.2.2.2.2.2.2.2.2.2.2.2.1
theorem f166_78 : zf 166 78 = some (.getfield 55) := cf166_59.2.2.2.2.2.2.2.2.2.2.2.2.2.1
theorem f166_81 : zf 166 81 = some (.iload_n 1) := cf166_59.2.2.2.2.2.2.2.2.2.2.2.2.2.2.1
theorem f166_82 : zf 166 82 = some (.aload_n 0) := cf166_59.2.2.2.2.2.2.2.2.2.2.2.2.2.2.2
theorem cf166_83 : zf 166 83 = some (.getfield 105) ∧ zf 166 86 = some (.iload_n 1) ∧ zf 166 87 = some (.iaload) ∧ zf 166 88 = some (.iastore) ∧ zf 166 89 = some (.iinc 1 1) ∧ zf 166 92 = some (.goto (-45)) ∧ zf 166 95 = some (.iconst 0) ∧ zf 166 96 = some (.istore_n 1) ∧ zf 166 97 = some (.iload_n 1) ∧ zf 166 98 = some (.bipush 14) ∧ zf 166 100 = some (.if_icmp .ge 21) ∧ zf 166 103 = some (.aload_n 0) ∧ zf 166 104 = some (.getfield 48) ∧ zf 166 107 = some (.iload_n 1) ∧ zf 166 108 = some (.aload_n 0) ∧ zf 166 109 = some (.getfield 99) := by decide +kernel
theorem f166_83 : zf 166 83 = some (.getfield 105) := cf166_83.1
theorem f166_86 : zf 166 86 = some (.iload_n 1) := cf166_83.2.1
theorem f166_87 : zf 166 87 = some (.iaload) := cf166_83.2.2.1
theorem f166_88 : zf 166 88 = some (.iastore) := cf166_83.2.2.2.1
theorem f166_89 : zf 166 89 = some (.iinc 1 1) := cf166_83.2.2.2.2.1
theorem f166_92 : zf 166 92 = some (.goto (-45)) := cf166_83.2.2.2.2.2.1
theorem f166_95 : zf 166 95 = some (.iconst 0) := cf166_83.2.2.2.2.2.2.1
theorem f166_96 : zf 166 96 = some (.istore_n 1) := cf166_83.2.2.2.2.2.2.2.1
theorem f166_97 : zf 166 97 = some (.iload_n 1) := cf166_83.2.2.2.2.2.2.2.2.1
theorem f166_98 : zf 166 98 = some (.bipush 14) := cf166_83.2.2.2.2.2.2.2.2.2.1
theorem f166_100 : zf 166 100 = some (.if_icmp .ge 21) := cf166_83.2.2.2.2.2.2.2.2.2.2.1
theorem f166_103 : zf 166 103 = some (.aload_n 0) := cf166_83.2.2.2.2.2.2.2.2.2.2.2.1
theorem f166_104 : zf 166 104 = some (.getfield 48) := cf166_83.2.2.2.2.2.2.2.2.2.2.2.2.1
theorem f166_107 : zf 166 107 = some (.iload_n 1) := cf166_83.2.2.2.2.2.2.2.2.2.2.2.2.2.1
theorem f166_108 : zf 166 108 = some (.aload_n 0) := cf166_83.2.2.2.2.2.2.2.2.2.2.2.2.2.2.1
theorem f166_109 : zf 166 109 = some (.getfield 99) := cf166_83.2.2.2.2.2.2.2.2.2.2.2.2.2.2.2
theorem cf166_112 : zf 166 112 = some (.iload_n 1) ∧ zf 166 113 = some (.baload) ∧ zf 166 114 = some (.bastore) ∧ zf 166 115 = some (.iinc 1 1) ∧ zf 166 118 = some (.goto (-21)) ∧ zf 166 121 = some (.return_) := by decide +kernel
theorem f166_112 : zf 166 112 = some (.iload_n 1) := cf166_112.1
theorem f166_113 : zf 166 113 = some (.baload) := cf166_112.2.1
theorem f166_114 : zf 166 114 = some (.bastore) := cf166_112.2.2.1
theorem f166_115 : zf 166 115 = some (.iinc 1 1) := cf166_112.2.2.2.1
theorem f166_118 : zf 166 118 = some (.goto (-21)) := cf166_112.2.2.2.2.1
theorem f166_121 : zf 166 121 = some (.return_) := cf166_112.2.2.2.2.2
theorem cf167_0 : zf 167 0 = some (.lconst 0) ∧ zf 167 1 = some (.lstore_n 2) ∧ zf 167 2 = some (.iconst 0) ∧ zf 167 3 = some (.istore 4) ∧ zf 167 5 = some (.iload 4) ∧ zf 167 7 = some (.bipush 14) ∧ zf 167 9 = some (.if_icmp .ge 30) ∧ zf 167 12 = some (.lload_n 2) ∧ zf 167 13 = some (.aload_n 0) ∧ zf 167 14 = some (.getfield 48) ∧ zf 167 17 = some (.iload 4) ∧ zf 167 19 = some (.baload) ∧ zf 167 20 = some (.ifCond .eq 10) ∧ zf 167 23 = some (.lconst 1) ∧ zf 167 24 = some (.iload 4) ∧ zf 167 26 = some (.lshl) := by decide +kernel
theorem f167_0 : zf 167 0 = some (.lconst 0) := cf167_0.1
theorem f167_1 : zf 167 1 = some (.lstore_n 2) := cf167_0.2.1
theorem f167_2 : zf 167 2 = some (.iconst 0) := cf167_0.2.2.1
theorem f167_3 : zf 167 3 = some (.istore 4) := cf167_0.2.2.2.1
theorem f167_5 : zf 167 5 = some (.iload 4) := cf167_0.2.2.2.2.1
theorem f167_7 : zf 167 7 = some (.bipush 14) := cf167_0.2.2.2.2.2.1
theorem f167_9 : zf 167 9 = some (.if_icmp .ge 30) := cf167_0.2.2.2.2.2.2.1
theorem f167_12 : zf 167 12 = some (.lload_n 2) := cf167_0.2.2.2.2.2.2.2.1
theorem f167_13 : zf 167 13 = some (.aload_n 0) := cf167_0.2.2.2.2.2.2.2.2.1
theorem f167_14 : zf 167 14 = some (.getfield 48) := cf167_0.2.2.2.2.2.2.2.2.2.1
theorem f167_17 : zf 167 17 = some (.iload 4) := cf167_0.2.2.2.2.2.2.2.2.2.2.1
theorem f167_19 : zf 167 19 = some (.baload) := cf167_0.2.2.2.2.2.2.2.2.2.2.2.1
theorem f167_20 : zf 167 20 = some (.ifCond .eq 10) := cf167_0.2.2.2.2.2.2.2.2.2.2.2.2.1
theorem f167_23 : zf 167 23 = some (.lconst 1) := cf167_0.2.2.2.2.2.2.2.2.2.2.2.2.2.1
theorem f167_24 : zf 167 24 = some (.iload 4) := cf167_0.2.2.2.2.2.2.2.2.2.2.2.2.2.2.1
theorem f167_26 : zf 167 26 = some (.lshl) := cf167_0.2.2.2.2.2.2.2.2.2.2.2.2.2.2.2
theorem cf167_27 : zf 167 27 = some (.goto 4) ∧ zf 167 30 = some (.lconst 0) ∧ zf 167 31 = some (.lor) ∧ zf 167 32 = some (.lstore_n 2) ∧ zf 167 33 = some (.iinc 4 1) ∧ zf 167 36 = some (.goto (-31)) ∧ zf 167 39 = some (.iconst 0) ∧ zf 167 40 = some (.istore 4) ∧ zf 167 42 = some (.iload 4) ∧ zf 167 44 = some (.bipush 8) ∧ zf 167 46 = some (.if_icmp .ge 52) ∧ zf 167 49 = some (.lload_n 2) ∧ zf 167 50 = some (.aload_n 0) ∧ zf 167 51 = some (.getfield 52) ∧ zf 167 54 = some (.iload 4) ∧ zf 167 56 = some (.baload) := by decide +kernel
theorem f167_27 : zf 167 27 = some (.goto 4) := cf167_27.1
theorem f167_30 : zf 167 30 = some (.lconst 0) := cf167_27.2.1
theorem f167_31 : zf 167 31 = some (.lor) := cf167_27.2.2.1
theorem f167_32 : zf 167 32 = some (.lstore_n 2) := cf167_27.2.2.2.1
theorem f167_33 : zf 167 33 = some (.iinc 4 1) := cf167_27.2.2.2.2.1
theorem f167_36 : zf 167 36 = some (.goto (-31)) := cf167_27.2.2.2.2.2.1
theorem f167_39 : zf 167 39 = some (.iconst 0) := cf167_27.2.2.2.2.2.2.1
theorem f167_40 : zf 167 40 = some (.istore 4) := cf167_27.2.2.2.2.2.2.2.1
theorem f167_42 : zf 167 42 = some (.iload 4) := cf167_27.2.2.2.2.2.2.2.2.1
theorem f167_44 : zf 167 44 = some (.bipush 8) := cf167_27.2.2.2.2.2.2.2.2.2.1
theorem f167_46 : zf 167 46 = some (.if_icmp .ge 52) := cf167_27.2.2.2.2.2.2.2.2.2.2.1
theorem f167_49 : zf 167 49 = some (.lload_n 2) := cf167_27.2.2.2.2.2.2.2.2.2.2.2.1
theorem f167_50 : zf 167 50 = some (.aload_n 0) := cf167_27.2.2.2.2.2.2.2.2.2.2.2.2.1
theorem f167_51 : zf 167 51 = some (.getfield 52) := cf167_27.2.2.2.2.2.2.2.2.2.2.2.2.2.1
theorem f167_54 : zf 167 54 = some (.iload 4) := cf167_27.2.2.2.2.2.2.2.2.2.2.2.2.2.2.1
theorem f167_56 : zf 167 56 = some (.baload) := cf167_27.2.2.2.2.2.2.2.2.2.2.2.2.2.2.2
theorem cf167_57 : zf 167 57 = some (.ifCond .eq 13) ∧ zf 167 60 = some (.lconst 1) ∧ zf 167 61 = some (.bipush 20) ∧ zf 167 63 = some (.iload 4) ∧ zf 167 65 = some (.iadd) ∧ zf 167 66 = some (.lshl) ∧ zf 167 67 = some (.goto 4) ∧ zf 167 70 = some (.lconst 0) ∧ zf 167 71 = some (.lor) ∧ zf 167 72 = some (.lstore_n 2) ∧ zf 167 73 = some (.aload_n 0) ∧ zf 167 74 = some (.getfield 108) ∧ zf 167 77 = some (.bipush 11) ∧ zf 167 79 = some (.iload_n 1) ∧ zf 167 80 = some (.imul) ∧ zf 167 81 = some (.iload 4) := by decide +kernel
theorem f167_57 : zf 167 57 = some (.ifCond .eq 13) := cf167_57.1
theorem f167_60 : zf 167 60 = some (.lconst 1) := cf167_57.2.1
theorem f167_61 : zf 167 61 = some (.bipush 20) := cf167_57.2.2.1
theorem f167_63 : zf 167 63 = some (.iload 4) := cf167_57.2.2.2.1
theorem f167_65 : zf 167 65 = some (.iadd) := cf167_57.2.2.2.2.1
theorem f167_66 : zf 167 66 = some (.lshl) := cf167_57.2.2.2.2.2.1
theorem f167_67 : zf 167 67 = some (.goto 4) := cf167_57.2.2.2.2.2.2.1
theorem f167_70 : zf 167 70 = some (.lconst 0) := cf167_57.2.2.2.2.2.2.2.1
theorem f167_71 : zf 167 71 = some (.lor) := cf167_57.2.2.2.2.2.2.2.2.1
theorem f167_72 : zf 167 72 = some (.lstore_n 2) := cf167_57.2.2.2.2.2.2.2.2.2.1
theorem f167_73 : zf 167 73 = some (.aload_n 0) := cf167_57.2.2.2.2.2.2.2.2.2.2.1
theorem f167_74 : zf 167 74 = some (.getfield 108) := cf167_57.2.2.2.2.2.2.2.2.2.2.2.1
theorem f167_77 : zf 167 77 = some (.bipush 11) := cf167_57.2.2.2.2.2.2.2.2.2.2.2.2.1
theorem f167_79 : zf 167 79 = some (.iload_n 1) := cf167_57.2.2.2.2.2.2.2.2.2.2.2.2.2.1
theorem f167_80 : zf 167 80 = some (.imul) := cf167_57.2.2.2.2.2.2.2.2.2.2.2.2.2.2.1
theorem f167_81 : zf 167 81 = some (.iload 4) := cf167_57.2.2.2.2.2.2.2.2.2.2.2.2.2.2.2
theorem cf167_83 : zf 167 83 = some (.iadd) ∧ zf 167 84 = some (.aload_n 0) ∧ zf 167 85 = some (.getfield 44) ∧ zf 167 88 = some (.iload 4) ∧ zf 167 90 = some (.laload) ∧ zf 167 91 = some (.lastore) ∧ zf 167 92 = some (.iinc 4 1) ∧ zf 167 95 = some (.goto (-53)) ∧ zf 167 98 = some (.aload_n 0) ∧ zf 167 99 = some (.getfield 108) ∧ zf 167 102 = some (.bipush 11) ∧ zf 167 104 = some (.iload_n 1) ∧ zf 167 105 = some (.imul) ∧ zf 167 106 = some (.bipush 8) ∧ zf 167 108 = some (.iadd) ∧ zf 167 109 = some (.aload_n 0) := by decide +kernel
theorem f167_83 : zf 167 83 = some (.iadd) := cf167_83.1
theorem f167_84 : zf 167 84 = some (.aload_n 0) := cf167_83.2.1
theorem f167_85 : zf 167 85 = some (.getfield 44) := cf167_83.2.2.1
theorem f167_88 : zf 167 88 = some (.iload 4) := cf167_83.2.2.2.1
theorem f167_90 : zf 167 90 = some (.laload) := cf167_83.2.2.2.2.1
theorem f167_91 : zf 167 91 = some (.lastore) := cf167_83.2.2.2.2.2.1
theorem f167_92 : zf 167 92 = some (.iinc 4 1) := cf167_83.2.2.2.2.2.2.1
theorem f167_95 : zf 167 95 = some (.goto (-53)) := cf167_83.2.2.2.2.2.2.2.1
theorem f167_98 : zf 167 98 = some (.aload_n 0) := cf167_83.2.2.2.2.2.2.2.2.1
theorem f167_99 : zf 167 99 = some (.getfield 108) := cf167_83.2.2.2.2.2.2.2.2.2.1
theorem f167_102 : zf 167 102 = some (.bipush 11) := cf167_83.2.2.2.2.2.2.2.2.2.2.1
theorem f167_104 : zf 167 104 = some (.iload_n 1) := cf167_83.2.2.2.2.2.2.2.2.2.2.2.1
theorem f167_105 : zf 167 105 = some (.imul) := cf167_83.2.2.2.2.2.2.2.2.2.2.2.2.1
theorem f167_106 : zf 167 106 = some (.bipush 8) := cf167_83.2.2.2.2.2.2.2.2.2.2.2.2.2.1
theorem f167_108 : zf 167 108 = some (.iadd) := cf167_83.2.2.2.2.2.2.2.2.2.2.2.2.2.2.1
theorem f167_109 : zf 167 109 = some (.aload_n 0) := cf167_83.2.2.2.2.2.2.2.2.2.2.2.2.2.2.2
theorem cf167_110 : zf 167 110 = some (.getfield 40) ∧ zf 167 113 = some (.lastore) ∧ zf 167 114 = some (.aload_n 0) ∧ zf 167 115 = some (.getfield 108) ∧ zf 167 118 = some (.bipush 11) ∧ zf 167 120 = some (.iload_n 1) ∧ zf 167 121 = some (.imul) ∧ zf 167 122 = some (.bipush 9) ∧ zf 167 124 = some (.iadd) ∧ zf 167 125 = some (.aload_n 0) ∧ zf 167 126 = some (.getfield 172) ∧ zf 167 129 = some (.lastore) ∧ zf 167 130 = some (.aload_n 0) ∧ zf 167 131 = some (.getfield 108) ∧ zf 167 134 = some (.bipush 11) ∧ zf 167 136 = some (.iload_n 1) := by decide +kernel
theorem f167_110 : zf 167 110 = some (.getfield 40) := cf167_110.1
theorem f167_113 : zf 167 113 = some (.lastore) := cf167_110.2.1
theorem f167_114 : zf 167 114 = some (.aload_n 0) := cf167_110.2.2.1
theorem f167_115 : zf 167 115 = some (.getfield 108) := cf167_110.2.2.2.1
theorem f167_118 : zf 167 118 = some (.bipush 11) := cf167_110.2.2.2.2.1
theorem f167_120 : zf 167 120 = some (.iload_n 1) := cf167_110.2.2.2.2.2.1
theorem f167_121 : zf 167 121 = some (.imul) := cf167_110.2.2.2.2.2.2.1
theorem f167_122 : zf 167 122 = some (.bipush 9) := cf167_110.2.2.2.2.2.2.2.1
theorem f167_124 : zf 167 124 = some (.iadd) := cf167_110.2.2.2.2.2.2.2.2.1
theorem f167_125 : zf 167 125 = some (.aload_n 0) := cf167_110.2.2.2.2.2.2.2.2.2.1
theorem f167_126 : zf 167 126 = some (.getfield 172) := cf167_110.2.2.2.2.2.2.2.2.2.2.1
theorem f167_129 : zf 167 129 = some (.lastore) := cf167_110.2.2.2.2.2.2.2.2.2.2.2.1
theorem f167_130 : zf 167 130 = some (.aload_n 0) := cf167_110.2.2.2.2.2.2.2.2.2.2.2.2.1
theorem f167_131 : zf 167 131 = some (.getfield 108) := cf167_110.2.2.2.2.2.2.2.2.2.2.2.2.2.1
theorem f167_134 : zf 167 134 = some (.bipush 11) := cf167_110.2.2.2.2.2.2.2.2.2.2.2.2.2.2.1
theorem f167_136 : zf 167 136 = some (.iload_n 1) := cf167_110.2.2.2.2.2.2.2.2.2.2.2.2.2.2.2
theorem cf167_137 : zf 167 137 = some (.imul) ∧ zf 167 138 = some (.bipush 10) ∧ zf 167 140 = some (.iadd) ∧ zf 167 141 = some (.lload_n 2) ∧ zf 167 142 = some (.lastore) ∧ zf 167 143 = some (.return_) := by decide +kernel
theorem f167_137 : zf 167 137 = some (.imul) := cf167_137.1
theorem f167_138 : zf 167 138 = some (.bipush 10) := cf167_137.2.1
theorem f167_140 : zf 167 140 = some (.iadd) := cf167_137.2.2.1
theorem f167_141 : zf 167 141 = some (.lload_n 2) := cf167_137.2.2.2.1
theorem f167_142 : zf 167 142 = some (.lastore) := cf167_137.2.2.2.2.1
theorem f167_143 : zf 167 143 = some (.return_) := cf167_137.2.2.2.2.2
theorem cf168_0 : zf 168 0 = some (.aload_n 0) ∧ zf 168 1 = some (.getfield 108) ∧ zf 168 4 = some (.bipush 11) ∧ zf 168 6 = some (.iload_n 1) ∧ zf 168 7 = some (.imul) ∧ zf 168 8 = some (.bipush 10) ∧ zf 168 10 = some (.iadd) ∧ zf 168 11 = some (.laload) ∧ zf 168 12 = some (.aload_n 0) ∧ zf 168 13 = some (.getfield 108) ∧ zf 168 16 = some (.bipush 11) ∧ zf 168 18 = some (.iload_n 2) ∧ zf 168 19 = some (.imul) ∧ zf 168 20 = some (.bipush 10) ∧ zf 168 22 = some (.iadd) ∧ zf 168 23 = some (.laload) := by decide +kernel
theorem f168_0 : zf 168 0 = some (.aload_n 0) := cf168_0.1
theorem f168_1 : zf 168 1 = some (.getfield 108) := cf168_0.2.1
theorem f168_4 : zf 168 4 = some (.bipush 11) := cf168_0.2.2.1
theorem f168_6 : zf 168 6 = some (.iload_n 1) := cf168_0.2.2.2.1
theorem f168_7 : zf 168 7 = some (.imul) := cf168_0.2.2.2.2.1
theorem f168_8 : zf 168 8 = some (.bipush 10) := cf168_0.2.2.2.2.2.1
theorem f168_10 : zf 168 10 = some (.iadd) := cf168_0.2.2.2.2.2.2.1
theorem f168_11 : zf 168 11 = some (.laload) := cf168_0.2.2.2.2.2.2.2.1
theorem f168_12 : zf 168 12 = some (.aload_n 0) := cf168_0.2.2.2.2.2.2.2.2.1
theorem f168_13 : zf 168 13 = some (.getfield 108) := cf168_0.2.2.2.2.2.2.2.2.2.1
theorem f168_16 : zf 168 16 = some (.bipush 11) := cf168_0.2.2.2.2.2.2.2.2.2.2.1
theorem f168_18 : zf 168 18 = some (.iload_n 2) := cf168_0.2.2.2.2.2.2.2.2.2.2.2.1
theorem f168_19 : zf 168 19 = some (.imul) := cf168_0.2.2.2.2.2.2.2.2.2.2.2.2.1
theorem f168_20 : zf 168 20 = some (.bipush 10) := cf168_0.2.2.2.2.2.2.2.2.2.2.2.2.2.1
theorem f168_22 : zf 168 22 = some (.iadd) := cf168_0.2.2.2.2.2.2.2.2.2.2.2.2.2.2.1
theorem f168_23 : zf 168 23 = some (.laload) := cf168_0.2.2.2.2.2.2.2.2.2.2.2.2.2.2.2
theorem cf168_24 : zf 168 24 = some (.lcmp) ∧ zf 168 25 = some (.ifCond .ne 7) ∧ zf 168 28 = some (.iconst 1) ∧ zf 168 29 = some (.goto 4) ∧ zf 168 32 = some (.iconst 0) ∧ zf 168 33 = some (.istore_n 3) ∧ zf 168 34 = some (.iconst 0) ∧ zf 168 35 = some (.istore 4) ∧ zf 168 37 = some (.iload 4) ∧ zf 168 39 = some (.bipush 8) ∧ zf 168 41 = some (.if_icmp .ge 73) ∧ zf 168 44 = some (.iload_n 3) ∧ zf 168 45 = some (.ifCond .eq 61) ∧ zf 168 48 = some (.aload_n 0) ∧ zf 168 49 = some (.getfield 108) ∧ zf 168 52 = some (.bipush 11) := by decide +kernel
theorem f168_24 : zf 168 24 = some (.lcmp) := cf168_24.1
theorem f168_25 : zf 168 25 = some (.ifCond .ne 7) := cf168_24.2.1
theorem f168_28 : zf 168 28 = some (.iconst 1) := cf168_24.2.2.1
theorem f168_29 : zf 168 29 = some (.goto 4) := cf168_24.2.2.2.1
theorem f168_32 : zf 168 32 = some (.iconst 0) := cf168_24.2.2.2.2.1
theorem f168_33 : zf 168 33 = some (.istore_n 3) := cf168_24.2.2.2.2.2.1
theorem f168_34 : zf 168 34 = some (.iconst 0) := cf168_24.2.2.2.2.2.2.1
theorem f168_35 : zf 168 35 = some (.istore 4) := cf168_24.2.2.2.2.2.2.2.1
theorem f168_37 : zf 168 37 = some (.iload 4) := cf168_24.2.2.2.2.2.2.2.2.1
theorem f168_39 : zf 168 39 = some (.bipush 8) := cf168_24.2.2.2.2.2.2.2.2.2.1
theorem f168_41 : zf 168 41 = some (.if_icmp .ge 73) := cf168_24.2.2.2.2.2.2.2.2.2.2.1
theorem f168_44 : zf 168 44 = some (.iload_n 3) := cf168_24.2.2.2.2.2.2.2.2.2.2.2.1
theorem f168_45 : zf 168 45 = some (.ifCond .eq 61) := cf168_24.2.2.2.2.2.2.2.2.2.2.2.2.1
theorem f168_48 : zf 168 48 = some (.aload_n 0) := cf168_24.2.2.2.2.2.2.2.2.2.2.2.2.2.1
theorem f168_49 : zf 168 49 = some (.getfield 108) := cf168_24.2.2.2.2.2.2.2.2.2.2.2.2.2.2.1
theorem f168_52 : zf 168 52 = some (.bipush 11) := cf168_24.2.2.2.2.2.2.2.2.2.2.2.2.2.2.2
theorem cf168_54 : zf 168 54 = some (.iload_n 1) ∧ zf 168 55 = some (.imul) ∧ zf 168 56 = some (.iload 4) ∧ zf 168 58 = some (.iadd) ∧ zf 168 59 = some (.laload) ∧ zf 168 60 = some (.aload_n 0) ∧ zf 168 61 = some (.getfield 108) ∧ zf 168 64 = some (.bipush 11) ∧ zf 168 66 = some (.iload_n 2) ∧ zf 168 67 = some (.imul) ∧ zf 168 68 = some (.bipush 8) ∧ zf 168 70 = some (.iadd) ∧ zf 168 71 = some (.laload) ∧ zf 168 72 = some (.lmul) ∧ zf 168 73 = some (.aload_n 0) ∧ zf 168 74 = some (.getfield 108) := by decide +kernel
theorem f168_54 : zf 168 54 = some (.iload_n 1) := cf168_54.1
theorem f168_55 : zf 168 55 = some (.imul) := cf168_54.2.1
theorem f168_56 : zf 168 56 = some (.iload 4) := cf168_54.2.2.1
theorem f168_58 : zf 168 58 = some (.iadd) := cf168_54.2.2.2.1
theorem f168_59 : zf 168 59 = some (.laload) := cf168_54.2.2.2.2.1
theorem f168_60 : zf 168 60 = some (.aload_n 0) := cf168_54.2.2.2.2.2.1
theorem f168_61 : zf 168 61 = some (.getfield 108) := cf168_54.2.2.2.2.2.2.1
theorem f168_64 : zf 168 64 = some (.bipush 11) := cf168_54.2.2.2.2.2.2.2.1
theorem f168_66 : zf 168 66 = some (.iload_n 2) := cf168_54.2.2.2.2.2.2.2.2.1
theorem f168_67 : zf 168 67 = some (.imul) := cf168_54.2.2.2.2.2.2.2.2.2.1
theorem f168_68 : zf 168 68 = some (.bipush 8) := cf168_54.2.2.2.2.2.2.2.2.2.2.1
theorem f168_70 : zf 168 70 = some (.iadd) := cf168_54.2.2.2.2.2.2.2.2.2.2.2.1
theorem f168_71 : zf 168 71 = some (.laload) := cf168_54.2.2.2.2.2.2.2.2.2.2.2.2.1
theorem f168_72 : zf 168 72 = some (.lmul) := cf168_54.2.2.2.2.2.2.2.2.2.2.2.2.2.1
theorem f168_73 : zf 168 73 = some (.aload_n 0) := cf168_54.2.2.2.2.2.2.2.2.2.2.2.2.2.2.1
theorem f168_74 : zf 168 74 = some (.getfield 108) := cf168_54.2.2.2.2.2.2.2.2.2.2.2.2.2.2.2
theorem cf168_77 : zf 168 77 = some (.bipush 11) ∧ zf 168 79 = some (.iload_n 2) ∧ zf 168 80 = some (.imul) ∧ zf 168 81 = some (.iload 4) ∧ zf 168 83 = some (.iadd) ∧ zf 168 84 = some (.laload) ∧ zf 168 85 = some (.aload_n 0) ∧ zf 168 86 = some (.getfield 108) ∧ zf 168 89 = some (.bipush 11) ∧ zf 168 91 = some (.iload_n 1) ∧ zf 168 92 = some (.imul) ∧ zf 168 93 = some (.bipush 8) ∧ zf 168 95 = some (.iadd) ∧ zf 168 96 = some (.laload) ∧ zf 168 97 = some (.lmul) ∧ zf 168 98 = some (.lcmp) := by decide +kernel
theorem f168_77 : zf 168 77 = some (.bipush 11) := cf168_77.1
theorem f168_79 : zf 168 79 = some (.iload_n 2) := cf168_77.2.1
theorem f168_80 : zf 168 80 = some (.imul) := cf168_77.2.2.1
theorem f168_81 : zf 168 81 = some (.iload 4) := cf168_77.2.2.2.1
theorem f168_83 : zf 168 83 = some (.iadd) := cf168_77.2.2.2.2.1
theorem f168_84 : zf 168 84 = some (.laload) := cf168_77.2.2.2.2.2.1
theorem f168_85 : zf 168 85 = some (.aload_n 0) := cf168_77.2.2.2.2.2.2.1
theorem f168_86 : zf 168 86 = some (.getfield 108) := cf168_77.2.2.2.2.2.2.2.1
theorem f168_89 : zf 168 89 = some (.bipush 11) := cf168_77.2.2.2.2.2.2.2.2.1
theorem f168_91 : zf 168 91 = some (.iload_n 1) := cf168_77.2.2.2.2.2.2.2.2.2.1
theorem f168_92 : zf 168 92 = some (.imul) := cf168_77.2.2.2.2.2.2.2.2.2.2.1
theorem f168_93 : zf 168 93 = some (.bipush 8) := cf168_77.2.2.2.2.2.2.2.2.2.2.2.1
theorem f168_95 : zf 168 95 = some (.iadd) := cf168_77.2.2.2.2.2.2.2.2.2.2.2.2.1
theorem f168_96 : zf 168 96 = some (.laload) := cf168_77.2.2.2.2.2.2.2.2.2.2.2.2.2.1
theorem f168_97 : zf 168 97 = some (.lmul) := cf168_77.2.2.2.2.2.2.2.2.2.2.2.2.2.2.1
theorem f168_98 : zf 168 98 = some (.lcmp) := cf168_77.2.2.2.2.2.2.2.2.2.2.2.2.2.2.2
theorem cf168_99 : zf 168 99 = some (.ifCond .ne 7) ∧ zf 168 102 = some (.iconst 1) ∧ zf 168 103 = some (.goto 4) ∧ zf 168 106 = some (.iconst 0) ∧ zf 168 107 = some (.istore_n 3) ∧ zf 168 108 = some (.iinc 4 1) ∧ zf 168 111 = some (.goto (-74)) ∧ zf 168 114 = some (.iload_n 3) ∧ zf 168 115 = some (.ireturn) := by decide +kernel
theorem f168_99 : zf 168 99 = some (.ifCond .ne 7) := cf168_99.1
theorem f168_102 : zf 168 102 = some (.iconst 1) := cf168_99.2.1
theorem f168_103 : zf 168 103 = some (.goto 4) := cf168_99.2.2.1
theorem f168_106 : zf 168 106 = some (.iconst 0) := cf168_99.2.2.2.1
theorem f168_107 : zf 168 107 = some (.istore_n 3) := cf168_99.2.2.2.2.1
theorem f168_108 : zf 168 108 = some (.iinc 4 1) := cf168_99.2.2.2.2.2.1
theorem f168_111 : zf 168 111 = some (.goto (-74)) := cf168_99.2.2.2.2.2.2.1
theorem f168_114 : zf 168 114 = some (.iload_n 3) := cf168_99.2.2.2.2.2.2.2.1
theorem f168_115 : zf 168 115 = some (.ireturn) := cf168_99.2.2.2.2.2.2.2.2
theorem cf169_0 : zf 169 0 = some (.aload_n 0) ∧ zf 169 1 = some (.iconst 0) ∧ zf 169 2 = some (.invokevirtual 264) ∧ zf 169 5 = some (.iconst 1) ∧ zf 169 6 = some (.istore_n 1) ∧ zf 169 7 = some (.iload_n 1) ∧ zf 169 8 = some (.sipush 150) ∧ zf 169 11 = some (.if_icmp .gt 72) ∧ zf 169 14 = some (.aload_n 0) ∧ zf 169 15 = some (.ldc2_w 267) ∧ zf 169 18 = some (.invokevirtual 235) ∧ zf 169 21 = some (.istore_n 2) ∧ zf 169 22 = some (.iload_n 2) ∧ zf 169 23 = some (.iconst 1) ∧ zf 169 24 = some (.if_icmp .eq 14) ∧ zf 169 27 = some (.iload_n 2) := by decide +kernel
theorem f169_0 : zf 169 0 = some (.aload_n 0) := cf169_0.1
theorem f169_1 : zf 169 1 = some (.iconst 0) := cf169_0.2.1
theorem f169_2 : zf 169 2 = some (.invokevirtual 264) := cf169_0.2.2.1
theorem f169_5 : zf 169 5 = some (.iconst 1) := cf169_0.2.2.2.1
theorem f169_6 : zf 169 6 = some (.istore_n 1) := cf169_0.2.2.2.2.1
theorem f169_7 : zf 169 7 = some (.iload_n 1) := cf169_0.2.2.2.2.2.1
theorem f169_8 : zf 169 8 = some (.sipush 150) := cf169_0.2.2.2.2.2.2.1
theorem f169_11 : zf 169 11 = some (.if_icmp .gt 72) := cf169_0.2.2.2.2.2.2.2.1
theorem f169_14 : zf 169 14 = some (.aload_n 0) := cf169_0.2.2.2.2.2.2.2.2.1
theorem f169_15 : zf 169 15 = some (.ldc2_w 267) := cf169_0.2.2.2.2.2.2.2.2.2.1
theorem f169_18 : zf 169 18 = some (.invokevirtual 235) := cf169_0.2.2.2.2.2.2.2.2.2.2.1
theorem f169_21 : zf 169 21 = some (.istore_n 2) := cf169_0.2.2.2.2.2.2.2.2.2.2.2.1
theorem f169_22 : zf 169 22 = some (.iload_n 2) := cf169_0.2.2.2.2.2.2.2.2.2.2.2.2.1
theorem f169_23 : zf 169 23 = some (.iconst 1) := cf169_0.2.2.2.2.2.2.2.2.2.2.2.2.2.1
theorem f169_24 : zf 169 24 = some (.if_icmp .eq 14) := cf169_0.2.2.2.2.2.2.2.2.2.2.2.2.2.2.1
theorem f169_27 : zf 169 27 = some (.iload_n 2) := cf169_0.2.2.2.2.2.2.2.2.2.2.2.2.2.2.2
theorem cf169_28 : zf 169 28 = some (.ifCond .ne 7) ∧ zf 169 31 = some (.iconst 0) ∧ zf 169 32 = some (.goto 5) ∧ zf 169 35 = some (.bipush (-2)) ∧ zf 169 37 = some (.ireturn) ∧ zf 169 38 = some (.aload_n 0) ∧ zf 169 39 = some (.iload_n 1) ∧ zf 169 40 = some (.invokevirtual 264) ∧ zf 169 43 = some (.iconst 0) ∧ zf 169 44 = some (.istore_n 3) ∧ zf 169 45 = some (.iload_n 3) ∧ zf 169 46 = some (.iload_n 1) ∧ zf 169 47 = some (.if_icmp .ge 30) ∧ zf 169 50 = some (.aload_n 0) ∧ zf 169 51 = some (.iload_n 3) ∧ zf 169 52 = some (.iload_n 1) := by decide +kernel
theorem f169_28 : zf 169 28 = some (.ifCond .ne 7) := cf169_28.1
theorem f169_31 : zf 169 31 = some (.iconst 0) := cf169_28.2.1
theorem f169_32 : zf 169 32 = some (.goto 5) := cf169_28.2.2.1
theorem f169_35 : zf 169 35 = some (.bipush (-2)) := cf169_28.2.2.2.1
theorem f169_37 : zf 169 37 = some (.ireturn) := cf169_28.2.2.2.2.1
theorem f169_38 : zf 169 38 = some (.aload_n 0) := cf169_28.2.2.2.2.2.1
theorem f169_39 : zf 169 39 = some (.iload_n 1) := cf169_28.2.2.2.2.2.2.1
theorem f169_40 : zf 169 40 = some (.invokevirtual 264) := cf169_28.2.2.2.2.2.2.2.1
theorem f169_43 : zf 169 43 = some (.iconst 0) := cf169_28.2.2.2.2.2.2.2.2.1
theorem f169_44 : zf 169 44 = some (.istore_n 3) := cf169_28.2.2.2.2.2.2.2.2.2.1
theorem f169_45 : zf 169 45 = some (.iload_n 3) := cf169_28.2.2.2.2.2.2.2.2.2.2.1
theorem f169_46 : zf 169 46 = some (.iload_n 1) := cf169_28.2.2.2.2.2.2.2.2.2.2.2.1
theorem f169_47 : zf 169 47 = some (.if_icmp .ge 30) := cf169_28.2.2.2.2.2.2.2.2.2.2.2.2.1
theorem f169_50 : zf 169 50 = some (.aload_n 0) := cf169_28.2.2.2.2.2.2.2.2.2.2.2.2.2.1
theorem f169_51 : zf 169 51 = some (.iload_n 3) := cf169_28.2.2.2.2.2.2.2.2.2.2.2.2.2.2.1
theorem f169_52 : zf 169 52 = some (.iload_n 1) := cf169_28.2.2.2.2.2.2.2.2.2.2.2.2.2.2.2
theorem cf169_53 : zf 169 53 = some (.invokevirtual 269) ∧ zf 169 56 = some (.ifCond .eq 15) ∧ zf 169 59 = some (.aload_n 0) ∧ zf 169 60 = some (.iload_n 3) ∧ zf 169 61 = some (.putfield 272) ∧ zf 169 64 = some (.aload_n 0) ∧ zf 169 65 = some (.iload_n 1) ∧ zf 169 66 = some (.putfield 275) ∧ zf 169 69 = some (.iconst 1) ∧ zf 169 70 = some (.ireturn) ∧ zf 169 71 = some (.iinc 3 1) ∧ zf 169 74 = some (.goto (-29)) ∧ zf 169 77 = some (.iinc 1 1) ∧ zf 169 80 = some (.goto (-73)) ∧ zf 169 83 = some (.bipush (-2)) ∧ zf 169 85 = some (.ireturn) := by decide +kernel
theorem f169_53 : zf 169 53 = some (.invokevirtual 269) := cf169_53.1
theorem f169_56 : zf 169 56 = some (.ifCond .eq 15) := cf169_53.2.1
theorem f169_59 : zf 169 59 = some (.aload_n 0) := cf169_53.2.2.1
theorem f169_60 : zf 169 60 = some (.iload_n 3) := cf169_53.2.2.2.1
theorem f169_61 : zf 169 61 = some (.putfield 272) := cf169_53.2.2.2.2.1
theorem f169_64 : zf 169 64 = some (.aload_n 0) := cf169_53.2.2.2.2.2.1
theorem f169_65 : zf 169 65 = some (.iload_n 1) := cf169_53.2.2.2.2.2.2.1
theorem f169_66 : zf 169 66 = some (.putfield 275) := cf169_53.2.2.2.2.2.2.2.1
theorem f169_69 : zf 169 69 = some (.iconst 1) := cf169_53.2.2.2.2.2.2.2.2.1
theorem f169_70 : zf 169 70 = some (.ireturn) := cf169_53.2.2.2.2.2.2.2.2.2.1
theorem f169_71 : zf 169 71 = some (.iinc 3 1) := cf169_53.2.2.2.2.2.2.2.2.2.2.1
theorem f169_74 : zf 169 74 = some (.goto (-29)) := cf169_53.2.2.2.2.2.2.2.2.2.2.2.1
theorem f169_77 : zf 169 77 = some (.iinc 1 1) := cf169_53.2.2.2.2.2.2.2.2.2.2.2.2.1
theorem f169_80 : zf 169 80 = some (.goto (-73)) := cf169_53.2.2.2.2.2.2.2.2.2.2.2.2.2.1
theorem f169_83 : zf 169 83 = some (.bipush (-2)) := cf169_53.2.2.2.2.2.2.2.2.2.2.2.2.2.2.1
theorem f169_85 : zf 169 85 = some (.ireturn) := cf169_53.2.2.2.2.2.2.2.2.2.2.2.2.2.2.2
theorem cf170_0 : zf 170 0 = some (.iload_n 1) ∧ zf 170 1 = some (.iconst 0) ∧ zf 170 2 = some (.iconst 4) ∧ zf 170 3 = some (.invokestatic 117) ∧ zf 170 6 = some (.ifCond .ne 5) ∧ zf 170 9 = some (.iconst (-1)) ∧ zf 170 10 = some (.ireturn) ∧ zf 170 11 = some (.aload_n 0) ∧ zf 170 12 = some (.invokevirtual 278) ∧ zf 170 15 = some (.aload_n 0) ∧ zf 170 16 = some (.invokevirtual 281) ∧ zf 170 19 = some (.istore_n 2) ∧ zf 170 20 = some (.aload_n 0) ∧ zf 170 21 = some (.invokevirtual 285) ∧ zf 170 24 = some (.iload_n 1) ∧ zf 170 25 = some (.ifCond .ne 5) := by decide +kernel
theorem f170_0 : zf 170 0 = some (.iload_n 1) := cf170_0.1
theorem f170_1 : zf 170 1 = some (.iconst 0) := cf170_0.2.1
theorem f170_2 : zf 170 2 = some (.iconst 4) := cf170_0.2.2.1
theorem f170_3 : zf 170 3 = some (.invokestatic 117) := cf170_0.2.2.2.1
theorem f170_6 : zf 170 6 = some (.ifCond .ne 5) := cf170_0.2.2.2.2.1
theorem f170_9 : zf 170 9 = some (.iconst (-1)) := cf170_0.2.2.2.2.2.1
theorem f170_10 : zf 170 10 = some (.ireturn) := cf170_0.2.2.2.2.2.2.1
theorem f170_11 : zf 170 11 = some (.aload_n 0) := cf170_0.2.2.2.2.2.2.2.1
theorem f170_12 : zf 170 12 = some (.invokevirtual 278) := cf170_0.2.2.2.2.2.2.2.2.1
theorem f170_15 : zf 170 15 = some (.aload_n 0) := cf170_0.2.2.2.2.2.2.2.2.2.1
theorem f170_16 : zf 170 16 = some (.invokevirtual 281) := cf170_0.2.2.2.2.2.2.2.2.2.2.1
theorem f170_19 : zf 170 19 = some (.istore_n 2) := cf170_0.2.2.2.2.2.2.2.2.2.2.2.1
theorem f170_20 : zf 170 20 = some (.aload_n 0) := cf170_0.2.2.2.2.2.2.2.2.2.2.2.2.1
theorem f170_21 : zf 170 21 = some (.invokevirtual 285) := cf170_0.2.2.2.2.2.2.2.2.2.2.2.2.2.1
theorem f170_24 : zf 170 24 = some (.iload_n 1) := cf170_0.2.2.2.2.2.2.2.2.2.2.2.2.2.2.1
theorem f170_25 : zf 170 25 = some (.ifCond .ne 5) := cf170_0.2.2.2.2.2.2.2.2.2.2.2.2.2.2.2
theorem cf170_28 : zf 170 28 = some (.iload_n 2) ∧ zf 170 29 = some (.ireturn) ∧ zf 170 30 = some (.iload_n 2) ∧ zf 170 31 = some (.iconst 1) ∧ zf 170 32 = some (.if_icmp .eq 5) ∧ zf 170 35 = some (.iconst (-1)) ∧ zf 170 36 = some (.ireturn) ∧ zf 170 37 = some (.aload_n 0) ∧ zf 170 38 = some (.getfield 108) ∧ zf 170 41 = some (.bipush 11) ∧ zf 170 43 = some (.aload_n 0) ∧ zf 170 44 = some (.getfield 272) ∧ zf 170 47 = some (.imul) ∧ zf 170 48 = some (.bipush 8) ∧ zf 170 50 = some (.iadd) ∧ zf 170 51 = some (.laload) := by decide +kernel
theorem f170_28 : zf 170 28 = some (.iload_n 2) := cf170_28.1
theorem f170_29 : zf 170 29 = some (.ireturn) := cf170_28.2.1
theorem f170_30 : zf 170 30 = some (.iload_n 2) := cf170_28.2.2.1
theorem f170_31 : zf 170 31 = some (.iconst 1) := cf170_28.2.2.2.1
theorem f170_32 : zf 170 32 = some (.if_icmp .eq 5) := cf170_28.2.2.2.2.1
theorem f170_35 : zf 170 35 = some (.iconst (-1)) := cf170_28.2.2.2.2.2.1
theorem f170_36 : zf 170 36 = some (.ireturn) := cf170_28.2.2.2.2.2.2.1
theorem f170_37 : zf 170 37 = some (.aload_n 0) := cf170_28.2.2.2.2.2.2.2.1
theorem f170_38 : zf 170 38 = some (.getfield 108) := cf170_28.2.2.2.2.2.2.2.2.1
theorem f170_41 : zf 170 41 = some (.bipush 11) := cf170_28.2.2.2.2.2.2.2.2.2.1
theorem f170_43 : zf 170 43 = some (.aload_n 0) := cf170_28.2.2.2.2.2.2.2.2.2.2.1
theorem f170_44 : zf 170 44 = some (.getfield 272) := cf170_28.2.2.2.2.2.2.2.2.2.2.2.1
theorem f170_47 : zf 170 47 = some (.imul) := cf170_28.2.2.2.2.2.2.2.2.2.2.2.2.1
theorem f170_48 : zf 170 48 = some (.bipush 8) := cf170_28.2.2.2.2.2.2.2.2.2.2.2.2.2.1
theorem f170_50 : zf 170 50 = some (.iadd) := cf170_28.2.2.2.2.2.2.2.2.2.2.2.2.2.2.1
theorem f170_51 : zf 170 51 = some (.laload) := cf170_28.2.2.2.2.2.2.2.2.2.2.2.2.2.2.2
theorem cf170_52 : zf 170 52 = some (.lstore_n 3) ∧ zf 170 53 = some (.aload_n 0) ∧ zf 170 54 = some (.getfield 108) ∧ zf 170 57 = some (.bipush 11) ∧ zf 170 59 = some (.aload_n 0) ∧ zf 170 60 = some (.getfield 272) ∧ zf 170 63 = some (.imul) ∧ zf 170 64 = some (.bipush 9) ∧ zf 170 66 = some (.iadd) ∧ zf 170 67 = some (.laload) ∧ zf 170 68 = some (.lstore 5) ∧ zf 170 70 = some (.aload_n 0) ∧ zf 170 71 = some (.getfield 108) ∧ zf 170 74 = some (.bipush 11) ∧ zf 170 76 = some (.aload_n 0) ∧ zf 170 77 = some (.getfield 275) := by decide +kernel
theorem f170_52 : zf 170 52 = some (.lstore_n 3) := cf170_52.1
theorem f170_53 : zf 170 53 = some (.aload_n 0) := cf170_52.2.1
theorem f170_54 : zf 170 54 = some (.getfield 108) := cf170_52.2.2.1
theorem f170_57 : zf 170 57 = some (.bipush 11) := cf170_52.2.2.2.1
theorem f170_59 : zf 170 59 = some (.aload_n 0) := cf170_52.2.2.2.2.1
theorem f170_60 : zf 170 60 = some (.getfield 272) := cf170_52.2.2.2.2.2.1
theorem f170_63 : zf 170 63 = some (.imul) := cf170_52.2.2.2.2.2.2.1
theorem f170_64 : zf 170 64 = some (.bipush 9) := cf170_52.2.2.2.2.2.2.2.1
theorem f170_66 : zf 170 66 = some (.iadd) := cf170_52.2.2.2.2.2.2.2.2.1
theorem f170_67 : zf 170 67 = some (.laload) := cf170_52.2.2.2.2.2.2.2.2.2.1
theorem f170_68 : zf 170 68 = some (.lstore 5) := cf170_52.2.2.2.2.2.2.2.2.2.2.1
theorem f170_70 : zf 170 70 = some (.aload_n 0) := cf170_52.2.2.2.2.2.2.2.2.2.2.2.1
theorem f170_71 : zf 170 71 = some (.getfield 108) := cf170_52.2.2.2.2.2.2.2.2.2.2.2.2.1
theorem f170_74 : zf 170 74 = some (.bipush 11) := cf170_52.2.2.2.2.2.2.2.2.2.2.2.2.2.1
theorem f170_76 : zf 170 76 = some (.aload_n 0) := cf170_52.2.2.2.2.2.2.2.2.2.2.2.2.2.2.1
theorem f170_77 : zf 170 77 = some (.getfield 275) := cf170_52.2.2.2.2.2.2.2.2.2.2.2.2.2.2.2
theorem cf170_80 : zf 170 80 = some (.imul) ∧ zf 170 81 = some (.bipush 8) ∧ zf 170 83 = some (.iadd) ∧ zf 170 84 = some (.laload) ∧ zf 170 85 = some (.lstore 7) ∧ zf 170 87 = some (.aload_n 0) ∧ zf 170 88 = some (.getfield 108) ∧ zf 170 91 = some (.bipush 11) ∧ zf 170 93 = some (.aload_n 0) ∧ zf 170 94 = some (.getfield 275) ∧ zf 170 97 = some (.imul) ∧ zf 170 98 = some (.bipush 9) ∧ zf 170 100 = some (.iadd) ∧ zf 170 101 = some (.laload) ∧ zf 170 102 = some (.lstore 9) ∧ zf 170 104 = some (.iload_n 1) := by decide +kernel
theorem f170_80 : zf 170 80 = some (.imul) := cf170_80.1
theorem f170_81 : zf 170 81 = some (.bipush 8) := cf170_80.2.1
theorem f170_83 : zf 170 83 = some (.iadd) := cf170_80.2.2.1
theorem f170_84 : zf 170 84 = some (.laload) := cf170_80.2.2.2.1
theorem f170_85 : zf 170 85 = some (.lstore 7) := cf170_80.2.2.2.2.1
theorem f170_87 : zf 170 87 = some (.aload_n 0) := cf170_80.2.2.2.2.2.1
theorem f170_88 : zf 170 88 = some (.getfield 108) := cf170_80.2.2.2.2.2.2.1
theorem f170_91 : zf 170 91 = some (.bipush 11) := cf170_80.2.2.2.2.2.2.2.1
theorem f170_93 : zf 170 93 = some (.aload_n 0) := cf170_80.2.2.2.2.2.2.2.2.1
theorem f170_94 : zf 170 94 = some (.getfield 275) := cf170_80.2.2.2.2.2.2.2.2.2.1
theorem f170_97 : zf 170 97 = some (.imul) := cf170_80.2.2.2.2.2.2.2.2.2.2.1
theorem f170_98 : zf 170 98 = some (.bipush 9) := cf170_80.2.2.2.2.2.2.2.2.2.2.2.1
theorem f170_100 : zf 170 100 = some (.iadd) := cf170_80.2.2.2.2.2.2.2.2.2.2.2.2.1
theorem f170_101 : zf 170 101 = some (.laload) := cf170_80.2.2.2.2.2.2.2.2.2.2.2.2.2.1
theorem f170_102 : zf 170 102 = some (.lstore 9) := cf170_80.2.2.2.2.2.2.2.2.2.2.2.2.2.2.1
theorem f170_104 : zf 170 104 = some (.iload_n 1) := cf170_80.2.2.2.2.2.2.2.2.2.2.2.2.2.2.2
theorem cf170_105 : zf 170 105 = some (.iconst 3) ∧ zf 170 106 = some (.if_icmp .ge 15) ∧ zf 170 109 = some (.lload 5) ∧ zf 170 111 = some (.lload_n 3) ∧ zf 170 112 = some (.iload_n 1) ∧ zf 170 113 = some (.iconst 1) ∧ zf 170 114 = some (.isub) ∧ zf 170 115 = some (.invokestatic 239) ∧ zf 170 118 = some (.goto 23) ∧ zf 170 121 = some (.lload 9) ∧ zf 170 123 = some (.lload_n 3) ∧ zf 170 124 = some (.lmul) ∧ zf 170 125 = some (.lload 5) ∧ zf 170 127 = some (.lload 7) ∧ zf 170 129 = some (.lmul) ∧ zf 170 130 = some (.lsub) := by decide +kernel
theorem f170_105 : zf 170 105 = some (.iconst 3) := cf170_105.1
theorem f170_106 : zf 170 106 = some (.if_icmp .ge 15) := cf170_105.2.1
theorem f170_109 : zf 170 109 = some (.lload 5) := cf170_105.2.2.1
theorem f170_111 : zf 170 111 = some (.lload_n 3) := cf170_105.2.2.2.1
theorem f170_112 : zf 170 112 = some (.iload_n 1) := cf170_105.2.2.2.2.1
theorem f170_113 : zf 170 113 = some (.iconst 1) := cf170_105.2.2.2.2.2.1
theorem f170_114 : zf 170 114 = some (.isub) := cf170_105.2.2.2.2.2.2.1
theorem f170_115 : zf 170 115 = some (.invokestatic 239) := cf170_105.2.2.2.2.2.2.2.1
theorem f170_118 : zf 170 118 = some (.goto 23) := cf170_105.2.2.2.2.2.2.2.2.1
theorem f170_121 : zf 170 121 = some (.lload 9) := cf170_105.2.2.2.2.2.2.2.2.2.1
theorem f170_123 : zf 170 123 = some (.lload_n 3) := cf170_105.2.2.2.2.2.2.2.2.2.2.1
theorem f170_124 : zf 170 124 = some (.lmul) := cf170_105.2.2.2.2.2.2.2.2.2.2.2.1
theorem f170_125 : zf 170 125 = some (.lload 5) := cf170_105.2.2.2.2.2.2.2.2.2.2.2.2.1
theorem f170_127 : zf 170 127 = some (.lload 7) := cf170_105.2.2.2.2.2.2.2.2.2.2.2.2.2.1
theorem f170_129 : zf 170 129 = some (.lmul) := cf170_105.2.2.2.2.2.2.2.2.2.2.2.2.2.2.1
theorem f170_130 : zf 170 130 = some (.lsub) := cf170_105.2.2.2.2.2.2.2.2.2.2.2.2.2.2.2
theorem cf170_131 : zf 170 131 = some (.lload_n 3) ∧ zf 170 132 = some (.lload 7) ∧ zf 170 134 = some (.lmul) ∧ zf 170 135 = some (.iload_n 1) ∧ zf 170 136 = some (.iconst 3) ∧ zf 170 137 = some (.isub) ∧ zf 170 138 = some (.invokestatic 239) ∧ zf 170 141 = some (.l2i) ∧ zf 170 142 = some (.ireturn) := by decide +kernel
theorem f170_131 : zf 170 131 = some (.lload_n 3) := cf170_131.1
theorem f170_132 : zf 170 132 = some (.lload 7) := cf170_131.2.1
theorem f170_134 : zf 170 134 = some (.lmul) := cf170_131.2.2.1
theorem f170_135 : zf 170 135 = some (.iload_n 1) := cf170_131.2.2.2.1
theorem f170_136 : zf 170 136 = some (.iconst 3) := cf170_131.2.2.2.2.1
theorem f170_137 : zf 170 137 = some (.isub) := cf170_131.2.2.2.2.2.1
theorem f170_138 : zf 170 138 = some (.invokestatic 239) := cf170_131.2.2.2.2.2.2.1
theorem f170_141 : zf 170 141 = some (.l2i) := cf170_131.2.2.2.2.2.2.2.1
theorem f170_142 : zf 170 142 = some (.ireturn) := cf170_131.2.2.2.2.2.2.2.2
theorem cf171_0 : zf 171 0 = some (.aload_n 0) ∧ zf 171 1 = some (.iconst 0) ∧ zf 171 2 = some (.putfield 186) ∧ zf 171 5 = some (.iconst 1) ∧ zf 171 6 = some (.istore_n 2) ∧ zf 171 7 = some (.iconst 0) ∧ zf 171 8 = some (.istore_n 3) ∧ zf 171 9 = some (.iload_n 3) ∧ zf 171 10 = some (.bipush 60) ∧ zf 171 12 = some (.if_icmp .ge 28) ∧ zf 171 15 = some (.iload_n 2) ∧ zf 171 16 = some (.iconst 1) ∧ zf 171 17 = some (.if_icmp .ne 23) ∧ zf 171 20 = some (.aload_n 0) ∧ zf 171 21 = some (.getfield 186) ∧ zf 171 24 = some (.ifCond .ne 16) := by decide +kernel
theorem f171_0 : zf 171 0 = some (.aload_n 0) := cf171_0.1
theorem f171_1 : zf 171 1 = some (.iconst 0) := cf171_0.2.1
theorem f171_2 : zf 171 2 = some (.putfield 186) := cf171_0.2.2.1
theorem f171_5 : zf 171 5 = some (.iconst 1) := cf171_0.2.2.2.1
theorem f171_6 : zf 171 6 = some (.istore_n 2) := cf171_0.2.2.2.2.1
theorem f171_7 : zf 171 7 = some (.iconst 0) := cf171_0.2.2.2.2.2.1
theorem f171_8 : zf 171 8 = some (.istore_n 3) := cf171_0.2.2.2.2.2.2.1
theorem f171_9 : zf 171 9 = some (.iload_n 3) := cf171_0.2.2.2.2.2.2.2.1
theorem f171_10 : zf 171 10 = some (.bipush 60) := cf171_0.2.2.2.2.2.2.2.2.1
theorem f171_12 : zf 171 12 = some (.if_icmp .ge 28) := cf171_0.2.2.2.2.2.2.2.2.2.1
theorem f171_15 : zf 171 15 = some (.iload_n 2) := cf171_0.2.2.2.2.2.2.2.2.2.2.1
theorem f171_16 : zf 171 16 = some (.iconst 1) := cf171_0.2.2.2.2.2.2.2.2.2.2.2.1
theorem f171_17 : zf 171 17 = some (.if_icmp .ne 23) := cf171_0.2.2.2.2.2.2.2.2.2.2.2.2.1
theorem f171_20 : zf 171 20 = some (.aload_n 0) := cf171_0.2.2.2.2.2.2.2.2.2.2.2.2.2.1
theorem f171_21 : zf 171 21 = some (.getfield 186) := cf171_0.2.2.2.2.2.2.2.2.2.2.2.2.2.2.1
theorem f171_24 : zf 171 24 = some (.ifCond .ne 16) := cf171_0.2.2.2.2.2.2.2.2.2.2.2.2.2.2.2
theorem cf171_27 : zf 171 27 = some (.aload_n 0) ∧ zf 171 28 = some (.iload_n 1) ∧ zf 171 29 = some (.i2l) ∧ zf 171 30 = some (.invokevirtual 235) ∧ zf 171 33 = some (.istore_n 2) ∧ zf 171 34 = some (.iinc 3 1) ∧ zf 171 37 = some (.goto (-28)) ∧ zf 171 40 = some (.aload_n 0) ∧ zf 171 41 = some (.getfield 186) ∧ zf 171 44 = some (.ifCond .eq 22) ∧ zf 171 47 = some (.aload_n 0) ∧ zf 171 48 = some (.getfield 172) ∧ zf 171 51 = some (.iload_n 1) ∧ zf 171 52 = some (.i2l) ∧ zf 171 53 = some (.aload_n 0) ∧ zf 171 54 = some (.getfield 40) := by decide +kernel
theorem f171_27 : zf 171 27 = some (.aload_n 0) := cf171_27.1
theorem f171_28 : zf 171 28 = some (.iload_n 1) := cf171_27.2.1
theorem f171_29 : zf 171 29 = some (.i2l) := cf171_27.2.2.1
theorem f171_30 : zf 171 30 = some (.invokevirtual 235) := cf171_27.2.2.2.1
theorem f171_33 : zf 171 33 = some (.istore_n 2) := cf171_27.2.2.2.2.1
theorem f171_34 : zf 171 34 = some (.iinc 3 1) := cf171_27.2.2.2.2.2.1
theorem f171_37 : zf 171 37 = some (.goto (-28)) := cf171_27.2.2.2.2.2.2.1
theorem f171_40 : zf 171 40 = some (.aload_n 0) := cf171_27.2.2.2.2.2.2.2.1
theorem f171_41 : zf 171 41 = some (.getfield 186) := cf171_27.2.2.2.2.2.2.2.2.1
theorem f171_44 : zf 171 44 = some (.ifCond .eq 22) := cf171_27.2.2.2.2.2.2.2.2.2.1
theorem f171_47 : zf 171 47 = some (.aload_n 0) := cf171_27.2.2.2.2.2.2.2.2.2.2.1
theorem f171_48 : zf 171 48 = some (.getfield 172) := cf171_27.2.2.2.2.2.2.2.2.2.2.2.1
theorem f171_51 : zf 171 51 = some (.iload_n 1) := cf171_27.2.2.2.2.2.2.2.2.2.2.2.2.1
theorem f171_52 : zf 171 52 = some (.i2l) := cf171_27.2.2.2.2.2.2.2.2.2.2.2.2.2.1
theorem f171_53 : zf 171 53 = some (.aload_n 0) := cf171_27.2.2.2.2.2.2.2.2.2.2.2.2.2.2.1
theorem f171_54 : zf 171 54 = some (.getfield 40) := cf171_27.2.2.2.2.2.2.2.2.2.2.2.2.2.2.2
theorem cf171_57 : zf 171 57 = some (.lmul) ∧ zf 171 58 = some (.lcmp) ∧ zf 171 59 = some (.ifCond .ne 7) ∧ zf 171 62 = some (.iconst 1) ∧ zf 171 63 = some (.goto 4) ∧ zf 171 66 = some (.iconst 0) ∧ zf 171 67 = some (.ireturn) := by decide +kernel
theorem f171_57 : zf 171 57 = some (.lmul) := cf171_57.1
theorem f171_58 : zf 171 58 = some (.lcmp) := cf171_57.2.1
theorem f171_59 : zf 171 59 = some (.ifCond .ne 7) := cf171_57.2.2.1
theorem f171_62 : zf 171 62 = some (.iconst 1) := cf171_57.2.2.2.1
theorem f171_63 : zf 171 63 = some (.goto 4) := cf171_57.2.2.2.2.1
theorem f171_66 : zf 171 66 = some (.iconst 0) := cf171_57.2.2.2.2.2.1
theorem f171_67 : zf 171 67 = some (.ireturn) := cf171_57.2.2.2.2.2.2
theorem cf172_0 : zf 172 0 = some (.aload_n 0) ∧ zf 172 1 = some (.iload_n 1) ∧ zf 172 2 = some (.invokevirtual 218) ∧ zf 172 5 = some (.ifCond .eq 45) ∧ zf 172 8 = some (.iload_n 2) ∧ zf 172 9 = some (.iconst 1) ∧ zf 172 10 = some (.bipush 20) ∧ zf 172 12 = some (.invokestatic 117) ∧ zf 172 15 = some (.ifCond .eq 35) ∧ zf 172 18 = some (.iload_n 3) ∧ zf 172 19 = some (.iload_n 2) ∧ zf 172 20 = some (.bipush 20) ∧ zf 172 22 = some (.invokestatic 117) ∧ zf 172 25 = some (.ifCond .eq 25) ∧ zf 172 28 = some (.aload_n 0) ∧ zf 172 29 = some (.iload 4) := by decide +kernel
theorem f172_0 : zf 172 0 = some (.aload_n 0) := cf172_0.1
theorem f172_1 : zf 172 1 = some (.iload_n 1) := cf172_0.2.1
theorem f172_2 : zf 172 2 = some (.invokevirtual 218) := cf172_0.2.2.1
theorem f172_5 : zf 172 5 = some (.ifCond .eq 45) := cf172_0.2.2.2.1
theorem f172_8 : zf 172 8 = some (.iload_n 2) := cf172_0.2.2.2.2.1
theorem f172_9 : zf 172 9 = some (.iconst 1) := cf172_0.2.2.2.2.2.1
theorem f172_10 : zf 172 10 = some (.bipush 20) := cf172_0.2.2.2.2.2.2.1
theorem f172_12 : zf 172 12 = some (.invokestatic 117) := cf172_0.2.2.2.2.2.2.2.1
theorem f172_15 : zf 172 15 = some (.ifCond .eq 35) := cf172_0.2.2.2.2.2.2.2.2.1
theorem f172_18 : zf 172 18 = some (.iload_n 3) := cf172_0.2.2.2.2.2.2.2.2.2.1
theorem f172_19 : zf 172 19 = some (.iload_n 2) := cf172_0.2.2.2.2.2.2.2.2.2.2.1
theorem f172_20 : zf 172 20 = some (.bipush 20) := cf172_0.2.2.2.2.2.2.2.2.2.2.2.1
theorem f172_22 : zf 172 22 = some (.invokestatic 117) := cf172_0.2.2.2.2.2.2.2.2.2.2.2.2.1
theorem f172_25 : zf 172 25 = some (.ifCond .eq 25) := cf172_0.2.2.2.2.2.2.2.2.2.2.2.2.2.1
theorem f172_28 : zf 172 28 = some (.aload_n 0) := cf172_0.2.2.2.2.2.2.2.2.2.2.2.2.2.2.1
theorem f172_29 : zf 172 29 = some (.iload 4) := cf172_0.2.2.2.2.2.2.2.2.2.2.2.2.2.2.2
theorem cf172_31 : zf 172 31 = some (.invokevirtual 215) ∧ zf 172 34 = some (.ifCond .eq 16) ∧ zf 172 37 = some (.aload_n 0) ∧ zf 172 38 = some (.iload 4) ∧ zf 172 40 = some (.invokevirtual 158) ∧ zf 172 43 = some (.ifCond .eq 7) ∧ zf 172 46 = some (.iconst 1) ∧ zf 172 47 = some (.goto 4) ∧ zf 172 50 = some (.iconst 0) ∧ zf 172 51 = some (.istore 6) ∧ zf 172 53 = some (.iload 6) ∧ zf 172 55 = some (.ifCond .eq 27) ∧ zf 172 58 = some (.iload 5) ∧ zf 172 60 = some (.sipush 10000) ∧ zf 172 63 = some (.if_icmp .gt 19) ∧ zf 172 66 = some (.iload 5) := by decide +kernel
theorem f172_31 : zf 172 31 = some (.invokevirtual 215) := cf172_31.1
theorem f172_34 : zf 172 34 = some (.ifCond .eq 16) := cf172_31.2.1
theorem f172_37 : zf 172 37 = some (.aload_n 0) := cf172_31.2.2.1
theorem f172_38 : zf 172 38 = some (.iload 4) := cf172_31.2.2.2.1
theorem f172_40 : zf 172 40 = some (.invokevirtual 158) := cf172_31.2.2.2.2.1
theorem f172_43 : zf 172 43 = some (.ifCond .eq 7) := cf172_31.2.2.2.2.2.1
theorem f172_46 : zf 172 46 = some (.iconst 1) := cf172_31.2.2.2.2.2.2.1
theorem f172_47 : zf 172 47 = some (.goto 4) := cf172_31.2.2.2.2.2.2.2.1
theorem f172_50 : zf 172 50 = some (.iconst 0) := cf172_31.2.2.2.2.2.2.2.2.1
theorem f172_51 : zf 172 51 = some (.istore 6) := cf172_31.2.2.2.2.2.2.2.2.2.1
theorem f172_53 : zf 172 53 = some (.iload 6) := cf172_31.2.2.2.2.2.2.2.2.2.2.1
theorem f172_55 : zf 172 55 = some (.ifCond .eq 27) := cf172_31.2.2.2.2.2.2.2.2.2.2.2.1
theorem f172_58 : zf 172 58 = some (.iload 5) := cf172_31.2.2.2.2.2.2.2.2.2.2.2.2.1
theorem f172_60 : zf 172 60 = some (.sipush 10000) := cf172_31.2.2.2.2.2.2.2.2.2.2.2.2.2.1
theorem f172_63 : zf 172 63 = some (.if_icmp .gt 19) := cf172_31.2.2.2.2.2.2.2.2.2.2.2.2.2.2.1
theorem f172_66 : zf 172 66 = some (.iload 5) := cf172_31.2.2.2.2.2.2.2.2.2.2.2.2.2.2.2
theorem cf172_68 : zf 172 68 = some (.i2l) ∧ zf 172 69 = some (.aload_n 0) ∧ zf 172 70 = some (.getfield 40) ∧ zf 172 73 = some (.lmul) ∧ zf 172 74 = some (.aload_n 0) ∧ zf 172 75 = some (.getfield 172) ∧ zf 172 78 = some (.lcmp) ∧ zf 172 79 = some (.ifCond .gt 9) ∧ zf 172 82 = some (.aload_n 0) ∧ zf 172 83 = some (.iconst 1) ∧ zf 172 84 = some (.invokevirtual 209) ∧ zf 172 87 = some (.ireturn) ∧ zf 172 88 = some (.aload_n 0) ∧ zf 172 89 = some (.getfield 37) ∧ zf 172 92 = some (.iload_n 1) ∧ zf 172 93 = some (.iaload) := by decide +kernel
theorem f172_68 : zf 172 68 = some (.i2l) := cf172_68.1
theorem f172_69 : zf 172 69 = some (.aload_n 0) := cf172_68.2.1
theorem f172_70 : zf 172 70 = some (.getfield 40) := cf172_68.2.2.1
theorem f172_73 : zf 172 73 = some (.lmul) := cf172_68.2.2.2.1
theorem f172_74 : zf 172 74 = some (.aload_n 0) := cf172_68.2.2.2.2.1
theorem f172_75 : zf 172 75 = some (.getfield 172) := cf172_68.2.2.2.2.2.1
theorem f172_78 : zf 172 78 = some (.lcmp) := cf172_68.2.2.2.2.2.2.1
theorem f172_79 : zf 172 79 = some (.ifCond .gt 9) := cf172_68.2.2.2.2.2.2.2.1
theorem f172_82 : zf 172 82 = some (.aload_n 0) := cf172_68.2.2.2.2.2.2.2.2.1
theorem f172_83 : zf 172 83 = some (.iconst 1) := cf172_68.2.2.2.2.2.2.2.2.2.1
theorem f172_84 : zf 172 84 = some (.invokevirtual 209) := cf172_68.2.2.2.2.2.2.2.2.2.2.1
theorem f172_87 : zf 172 87 = some (.ireturn) := cf172_68.2.2.2.2.2.2.2.2.2.2.2.1
theorem f172_88 : zf 172 88 = some (.aload_n 0) := cf172_68.2.2.2.2.2.2.2.2.2.2.2.2.1
theorem f172_89 : zf 172 89 = some (.getfield 37) := cf172_68.2.2.2.2.2.2.2.2.2.2.2.2.2.1
theorem f172_92 : zf 172 92 = some (.iload_n 1) := cf172_68.2.2.2.2.2.2.2.2.2.2.2.2.2.2.1
theorem f172_93 : zf 172 93 = some (.iaload) := cf172_68.2.2.2.2.2.2.2.2.2.2.2.2.2.2.2
theorem cf172_94 : zf 172 94 = some (.istore 7) ∧ zf 172 96 = some (.iconst (-1)) ∧ zf 172 97 = some (.istore 8) ∧ zf 172 99 = some (.iload_n 2) ∧ zf 172 100 = some (.istore 9) ∧ zf 172 102 = some (.iload 9) ∧ zf 172 104 = some (.iload_n 3) ∧ zf 172 105 = some (.if_icmp .gt 59) ∧ zf 172 108 = some (.iload 8) ∧ zf 172 110 = some (.iconst (-1)) ∧ zf 172 111 = some (.if_icmp .ne 53) ∧ zf 172 114 = some (.aload_n 0) ∧ zf 172 115 = some (.invokevirtual 278) ∧ zf 172 118 = some (.aload_n 0) ∧ zf 172 119 = some (.iload 4) ∧ zf 172 121 = some (.putfield 92) := by decide +kernel
theorem f172_94 : zf 172 94 = some (.istore 7) := cf172_94.1
theorem f172_96 : zf 172 96 = some (.iconst (-1)) := cf172_94.2.1
theorem f172_97 : zf 172 97 = some (.istore 8) := cf172_94.2.2.1
theorem f172_99 : zf 172 99 = some (.iload_n 2) := cf172_94.2.2.2.1
theorem f172_100 : zf 172 100 = some (.istore 9) := cf172_94.2.2.2.2.1
theorem f172_102 : zf 172 102 = some (.iload 9) := cf172_94.2.2.2.2.2.1
theorem f172_104 : zf 172 104 = some (.iload_n 3) := cf172_94.2.2.2.2.2.2.1
theorem f172_105 : zf 172 105 = some (.if_icmp .gt 59) := cf172_94.2.2.2.2.2.2.2.1
theorem f172_108 : zf 172 108 = some (.iload 8) := cf172_94.2.2.2.2.2.2.2.2.1
theorem f172_110 : zf 172 110 = some (.iconst (-1)) := cf172_94.2.2.2.2.2.2.2.2.2.1
theorem f172_111 : zf 172 111 = some (.if_icmp .ne 53) := cf172_94.2.2.2.2.2.2.2.2.2.2.1
theorem f172_114 : zf 172 114 = some (.aload_n 0) := cf172_94.2.2.2.2.2.2.2.2.2.2.2.1
theorem f172_115 : zf 172 115 = some (.invokevirtual 278) := cf172_94.2.2.2.2.2.2.2.2.2.2.2.2.1
theorem f172_118 : zf 172 118 = some (.aload_n 0) := cf172_94.2.2.2.2.2.2.2.2.2.2.2.2.2.1
theorem f172_119 : zf 172 119 = some (.iload 4) := cf172_94.2.2.2.2.2.2.2.2.2.2.2.2.2.2.1
theorem f172_121 : zf 172 121 = some (.putfield 92) := cf172_94.2.2.2.2.2.2.2.2.2.2.2.2.2.2.2
theorem cf172_124 : zf 172 124 = some (.aload_n 0) ∧ zf 172 125 = some (.getfield 37) ∧ zf 172 128 = some (.iload_n 1) ∧ zf 172 129 = some (.iload 9) ∧ zf 172 131 = some (.iastore) ∧ zf 172 132 = some (.aload_n 0) ∧ zf 172 133 = some (.iload 5) ∧ zf 172 135 = some (.invokevirtual 288) ∧ zf 172 138 = some (.ifCond .eq 8) ∧ zf 172 141 = some (.iload 9) ∧ zf 172 143 = some (.goto 4) ∧ zf 172 146 = some (.iconst (-1)) ∧ zf 172 147 = some (.istore 8) ∧ zf 172 149 = some (.aload_n 0) ∧ zf 172 150 = some (.iconst (-1)) ∧ zf 172 151 = some (.putfield 92) := by decide +kernel
theorem f172_124 : zf 172 124 = some (.aload_n 0) := cf172_124.1
theorem f172_125 : zf 172 125 = some (.getfield 37) := cf172_124.2.1
theorem f172_128 : zf 172 128 = some (.iload_n 1) := cf172_124.2.2.1
theorem f172_129 : zf 172 129 = some (.iload 9) := cf172_124.2.2.2.1
theorem f172_131 : zf 172 131 = some (.iastore) := cf172_124.2.2.2.2.1
theorem f172_132 : zf 172 132 = some (.aload_n 0) := cf172_124.2.2.2.2.2.1
theorem f172_133 : zf 172 133 = some (.iload 5) := cf172_124.2.2.2.2.2.2.1
theorem f172_135 : zf 172 135 = some (.invokevirtual 288) := cf172_124.2.2.2.2.2.2.2.1
theorem f172_138 : zf 172 138 = some (.ifCond .eq 8) := cf172_124.2.2.2.2.2.2.2.2.1
theorem f172_141 : zf 172 141 = some (.iload 9) := cf172_124.2.2.2.2.2.2.2.2.2.1
theorem f172_143 : zf 172 143 = some (.goto 4) := cf172_124.2.2.2.2.2.2.2.2.2.2.1
theorem f172_146 : zf 172 146 = some (.iconst (-1)) := cf172_124.2.2.2.2.2.2.2.2.2.2.2.1
theorem f172_147 : zf 172 147 = some (.istore 8) := cf172_124.2.2.2.2.2.2.2.2.2.2.2.2.1
theorem f172_149 : zf 172 149 = some (.aload_n 0) := cf172_124.2.2.2.2.2.2.2.2.2.2.2.2.2.1
theorem f172_150 : zf 172 150 = some (.iconst (-1)) := cf172_124.2.2.2.2.2.2.2.2.2.2.2.2.2.2.1
theorem f172_151 : zf 172 151 = some (.putfield 92) := cf172_124.2.2.2.2.2.2.2.2.2.2.2.2.2.2.2
theorem cf172_154 : zf 172 154 = some (.aload_n 0) ∧ zf 172 155 = some (.invokevirtual 285) ∧ zf 172 158 = some (.iinc 9 1) ∧ zf 172 161 = some (.goto (-59)) ∧ zf 172 164 = some (.aload_n 0) ∧ zf 172 165 = some (.getfield 37) ∧ zf 172 168 = some (.iload_n 1) ∧ zf 172 169 = some (.iload 7) ∧ zf 172 171 = some (.iastore) ∧ zf 172 172 = some (.iload 8) ∧ zf 172 174 = some (.iconst (-1)) ∧ zf 172 175 = some (.if_icmp .ne 11) ∧ zf 172 178 = some (.aload_n 0) ∧ zf 172 179 = some (.iconst 3) ∧ zf 172 180 = some (.invokevirtual 209) ∧ zf 172 183 = some (.goto 9) := by decide +kernel
theorem f172_154 : zf 172 154 = some (.aload_n 0) := cf172_154.1
theorem f172_155 : zf 172 155 = some (.invokevirtual 285) := cf172_154.2.1
theorem f172_158 : zf 172 158 = some (.iinc 9 1) := cf172_154.2.2.1
theorem f172_161 : zf 172 161 = some (.goto (-59)) := cf172_154.2.2.2.1
theorem f172_164 : zf 172 164 = some (.aload_n 0) := cf172_154.2.2.2.2.1
theorem f172_165 : zf 172 165 = some (.getfield 37) := cf172_154.2.2.2.2.2.1
theorem f172_168 : zf 172 168 = some (.iload_n 1) := cf172_154.2.2.2.2.2.2.1
theorem f172_169 : zf 172 169 = some (.iload 7) := cf172_154.2.2.2.2.2.2.2.1
theorem f172_171 : zf 172 171 = some (.iastore) := cf172_154.2.2.2.2.2.2.2.2.1
theorem f172_172 : zf 172 172 = some (.iload 8) := cf172_154.2.2.2.2.2.2.2.2.2.1
theorem f172_174 : zf 172 174 = some (.iconst (-1)) := cf172_154.2.2.2.2.2.2.2.2.2.2.1
theorem f172_175 : zf 172 175 = some (.if_icmp .ne 11) := cf172_154.2.2.2.2.2.2.2.2.2.2.2.1
theorem f172_178 : zf 172 178 = some (.aload_n 0) := cf172_154.2.2.2.2.2.2.2.2.2.2.2.2.1
theorem f172_179 : zf 172 179 = some (.iconst 3) := cf172_154.2.2.2.2.2.2.2.2.2.2.2.2.2.1
theorem f172_180 : zf 172 180 = some (.invokevirtual 209) := cf172_154.2.2.2.2.2.2.2.2.2.2.2.2.2.2.1
theorem f172_183 : zf 172 183 = some (.goto 9) := cf172_154.2.2.2.2.2.2.2.2.2.2.2.2.2.2.2
theorem cf172_186 : zf 172 186 = some (.aload_n 0) ∧ zf 172 187 = some (.iload 8) ∧ zf 172 189 = some (.invokevirtual 205) ∧ zf 172 192 = some (.ireturn) := by decide +kernel
theorem f172_186 : zf 172 186 = some (.aload_n 0) := cf172_186.1
theorem f172_187 : zf 172 187 = some (.iload 8) := cf172_186.2.1
theorem f172_189 : zf 172 189 = some (.invokevirtual 205) := cf172_186.2.2.1
theorem f172_192 : zf 172 192 = some (.ireturn) := cf172_186.2.2.2
theorem cf173_0 : zf 173 0 = some (.aload_n 0) ∧ zf 173 1 = some (.getfield 246) ∧ zf 173 4 = some (.bipush 50) ∧ zf 173 6 = some (.if_icmp .ge 13) ∧ zf 173 9 = some (.aload_n 0) ∧ zf 173 10 = some (.getfield 74) ∧ zf 173 13 = some (.aload_n 0) ∧ zf 173 14 = some (.getfield 246) ∧ zf 173 17 = some (.iload_n 1) ∧ zf 173 18 = some (.iastore) ∧ zf 173 19 = some (.aload_n 0) ∧ zf 173 20 = some (.dup) ∧ zf 173 21 = some (.getfield 246) ∧ zf 173 24 = some (.iconst 1) ∧ zf 173 25 = some (.iadd) ∧ zf 173 26 = some (.putfield 246) := by decide +kernel
theorem f173_0 : zf 173 0 = some (.aload_n 0) := cf173_0.1
theorem f173_1 : zf 173 1 = some (.getfield 246) := cf173_0.2.1
theorem f173_4 : zf 173 4 = some (.bipush 50) := cf173_0.2.2.1
theorem f173_6 : zf 173 6 = some (.if_icmp .ge 13) := cf173_0.2.2.2.1
theorem f173_9 : zf 173 9 = some (.aload_n 0) := cf173_0.2.2.2.2.1
theorem f173_10 : zf 173 10 = some (.getfield 74) := cf173_0.2.2.2.2.2.1
theorem f173_13 : zf 173 13 = some (.aload_n 0) := cf173_0.2.2.2.2.2.2.1
theorem f173_14 : zf 173 14 = some (.getfield 246) := cf173_0.2.2.2.2.2.2.2.1
theorem f173_17 : zf 173 17 = some (.iload_n 1) := cf173_0.2.2.2.2.2.2.2.2.1
theorem f173_18 : zf 173 18 = some (.iastore) := cf173_0.2.2.2.2.2.2.2.2.2.1
theorem f173_19 : zf 173 19 = some (.aload_n 0) := cf173_0.2.2.2.2.2.2.2.2.2.2.1
theorem f173_20 : zf 173 20 = some (.dup) := cf173_0.2.2.2.2.2.2.2.2.2.2.2.1
theorem f173_21 : zf 173 21 = some (.getfield 246) := cf173_0.2.2.2.2.2.2.2.2.2.2.2.2.1
theorem f173_24 : zf 173 24 = some (.iconst 1) := cf173_0.2.2.2.2.2.2.2.2.2.2.2.2.2.1
theorem f173_25 : zf 173 25 = some (.iadd) := cf173_0.2.2.2.2.2.2.2.2.2.2.2.2.2.2.1
theorem f173_26 : zf 173 26 = some (.putfield 246) := cf173_0.2.2.2.2.2.2.2.2.2.2.2.2.2.2.2
theorem f173_29 : zf 173 29 = some (.return_) := by decide +kernel
theorem cf174_0 : zf 174 0 = some (.aload_n 0) ∧ zf 174 1 = some (.bipush 10) ∧ zf 174 3 = some (.invokevirtual 291) ∧ zf 174 6 = some (.iload_n 2) ∧ zf 174 7 = some (.aload_n 0) ∧ zf 174 8 = some (.getfield 13) ∧ zf 174 11 = some (.iload_n 1) ∧ zf 174 12 = some (.iaload) ∧ zf 174 13 = some (.iadd) ∧ zf 174 14 = some (.ireturn) := by decide +kernel
theorem f174_0 : zf 174 0 = some (.aload_n 0) := cf174_0.1
theorem f174_1 : zf 174 1 = some (.bipush 10) := cf174_0.2.1
theorem f174_3 : zf 174 3 = some (.invokevirtual 291) := cf174_0.2.2.1
theorem f174_6 : zf 174 6 = some (.iload_n 2) := cf174_0.2.2.2.1
theorem f174_7 : zf 174 7 = some (.aload_n 0) := cf174_0.2.2.2.2.1
theorem f174_8 : zf 174 8 = some (.getfield 13) := cf174_0.2.2.2.2.2.1
theorem f174_11 : zf 174 11 = some (.iload_n 1) := cf174_0.2.2.2.2.2.2.1
theorem f174_12 : zf 174 12 = some (.iaload) := cf174_0.2.2.2.2.2.2.2.1
theorem f174_13 : zf 174 13 = some (.iadd) := cf174_0.2.2.2.2.2.2.2.2.1
theorem f174_14 : zf 174 14 = some (.ireturn) := cf174_0.2.2.2.2.2.2.2.2.2
theorem cf175_0 : zf 175 0 = some (.aload_n 0) ∧ zf 175 1 = some (.getfield 7) ∧ zf 175 4 = some (.iload_n 1) ∧ zf 175 5 = some (.iaload) ∧ zf 175 6 = some (.iconst 2) ∧ zf 175 7 = some (.if_icmp .ne 18) ∧ zf 175 10 = some (.aload_n 0) ∧ zf 175 11 = some (.bipush 30) ∧ zf 175 13 = some (.invokevirtual 291) ∧ zf 175 16 = some (.aload_n 0) ∧ zf 175 17 = some (.iload_n 1) ∧ zf 175 18 = some (.iload_n 2) ∧ zf 175 19 = some (.invokevirtual 294) ∧ zf 175 22 = some (.iconst 2) ∧ zf 175 23 = some (.imul) ∧ zf 175 24 = some (.ireturn) := by decide +kernel
theorem f175_0 : zf 175 0 = some (.aload_n 0) := cf175_0.1
theorem f175_1 : zf 175 1 = some (.getfield 7) := cf175_0.2.1
theorem f175_4 : zf 175 4 = some (.iload_n 1) := cf175_0.2.2.1
theorem f175_5 : zf 175 5 = some (.iaload) := cf175_0.2.2.2.1
theorem f175_6 : zf 175 6 = some (.iconst 2) := cf175_0.2.2.2.2.1
theorem f175_7 : zf 175 7 = some (.if_icmp .ne 18) := cf175_0.2.2.2.2.2.1
theorem f175_10 : zf 175 10 = some (.aload_n 0) := cf175_0.2.2.2.2.2.2.1
theorem f175_11 : zf 175 11 = some (.bipush 30) := cf175_0.2.2.2.2.2.2.2.1
theorem f175_13 : zf 175 13 = some (.invokevirtual 291) := cf175_0.2.2.2.2.2.2.2.2.1
theorem f175_16 : zf 175 16 = some (.aload_n 0) := cf175_0.2.2.2.2.2.2.2.2.2.1
theorem f175_17 : zf 175 17 = some (.iload_n 1) := cf175_0.2.2.2.2.2.2.2.2.2.2.1
theorem f175_18 : zf 175 18 = some (.iload_n 2) := cf175_0.2.2.2.2.2.2.2.2.2.2.2.1
theorem f175_19 : zf 175 19 = some (.invokevirtual 294) := cf175_0.2.2.2.2.2.2.2.2.2.2.2.2.1
theorem f175_22 : zf 175 22 = some (.iconst 2) := cf175_0.2.2.2.2.2.2.2.2.2.2.2.2.2.1
theorem f175_23 : zf 175 23 = some (.imul) := cf175_0.2.2.2.2.2.2.2.2.2.2.2.2.2.2.1
theorem f175_24 : zf 175 24 = some (.ireturn) := cf175_0.2.2.2.2.2.2.2.2.2.2.2.2.2.2.2
theorem cf175_25 : zf 175 25 = some (.aload_n 0) ∧ zf 175 26 = some (.iload_n 1) ∧ zf 175 27 = some (.invokevirtual 158) ∧ zf 175 30 = some (.ifCond .eq 23) ∧ zf 175 33 = some (.aload_n 0) ∧ zf 175 34 = some (.bipush 41) ∧ zf 175 36 = some (.invokevirtual 291) ∧ zf 175 39 = some (.aload_n 0) ∧ zf 175 40 = some (.iload_n 1) ∧ zf 175 41 = some (.iload_n 2) ∧ zf 175 42 = some (.aload_n 0) ∧ zf 175 43 = some (.getfield 16) ∧ zf 175 46 = some (.iload_n 1) ∧ zf 175 47 = some (.iaload) ∧ zf 175 48 = some (.iadd) ∧ zf 175 49 = some (.invokevirtual 294) := by decide +kernel
theorem f175_25 : zf 175 25 = some (.aload_n 0) := cf175_25.1
theorem f175_26 : zf 175 26 = some (.iload_n 1) := cf175_25.2.1
theorem f175_27 : zf 175 27 = some (.invokevirtual 158) := cf175_25.2.2.1
theorem f175_30 : zf 175 30 = some (.ifCond .eq 23) := cf175_25.2.2.2.1
theorem f175_33 : zf 175 33 = some (.aload_n 0) := cf175_25.2.2.2.2.1
theorem f175_34 : zf 175 34 = some (.bipush 41) := cf175_25.2.2.2.2.2.1
theorem f175_36 : zf 175 36 = some (.invokevirtual 291) := cf175_25.2.2.2.2.2.2.1
theorem f175_39 : zf 175 39 = some (.aload_n 0) := cf175_25.2.2.2.2.2.2.2.1
theorem f175_40 : zf 175 40 = some (.iload_n 1) := cf175_25.2.2.2.2.2.2.2.2.1
theorem f175_41 : zf 175 41 = some (.iload_n 2) := cf175_25.2.2.2.2.2.2.2.2.2.1
theorem f175_42 : zf 175 42 = some (.aload_n 0) := cf175_25.2.2.2.2.2.2.2.2.2.2.1
theorem f175_43 : zf 175 43 = some (.getfield 16) := cf175_25.2.2.2.2.2.2.2.2.2.2.2.1
theorem f175_46 : zf 175 46 = some (.iload_n 1) := cf175_25.2.2.2.2.2.2.2.2.2.2.2.2.1
theorem f175_47 : zf 175 47 = some (.iaload) := cf175_25.2.2.2.2.2.2.2.2.2.2.2.2.2.1
theorem f175_48 : zf 175 48 = some (.iadd) := cf175_25.2.2.2.2.2.2.2.2.2.2.2.2.2.2.1
theorem f175_49 : zf 175 49 = some (.invokevirtual 294) := cf175_25.2.2.2.2.2.2.2.2.2.2.2.2.2.2.2
theorem cf175_52 : zf 175 52 = some (.ireturn) ∧ zf 175 53 = some (.aload_n 0) ∧ zf 175 54 = some (.iload_n 1) ∧ zf 175 55 = some (.iload_n 2) ∧ zf 175 56 = some (.invokevirtual 294) ∧ zf 175 59 = some (.ireturn) := by decide +kernel
theorem f175_52 : zf 175 52 = some (.ireturn) := cf175_52.1
theorem f175_53 : zf 175 53 = some (.aload_n 0) := cf175_52.2.1
theorem f175_54 : zf 175 54 = some (.iload_n 1) := cf175_52.2.2.1
theorem f175_55 : zf 175 55 = some (.iload_n 2) := cf175_52.2.2.2.1
theorem f175_56 : zf 175 56 = some (.invokevirtual 294) := cf175_52.2.2.2.2.1
theorem f175_59 : zf 175 59 = some (.ireturn) := cf175_52.2.2.2.2.2
theorem cf176_0 : zf 176 0 = some (.aload_n 0) ∧ zf 176 1 = some (.bipush 11) ∧ zf 176 3 = some (.invokevirtual 291) ∧ zf 176 6 = some (.aload_n 0) ∧ zf 176 7 = some (.iload_n 1) ∧ zf 176 8 = some (.iload_n 2) ∧ zf 176 9 = some (.invokevirtual 298) ∧ zf 176 12 = some (.iconst 3) ∧ zf 176 13 = some (.imul) ∧ zf 176 14 = some (.ireturn) := by decide +kernel
theorem f176_0 : zf 176 0 = some (.aload_n 0) := cf176_0.1
theorem f176_1 : zf 176 1 = some (.bipush 11) := cf176_0.2.1
theorem f176_3 : zf 176 3 = some (.invokevirtual 291) := cf176_0.2.2.1
theorem f176_6 : zf 176 6 = some (.aload_n 0) := cf176_0.2.2.2.1
theorem f176_7 : zf 176 7 = some (.iload_n 1) := cf176_0.2.2.2.2.1
theorem f176_8 : zf 176 8 = some (.iload_n 2) := cf176_0.2.2.2.2.2.1
theorem f176_9 : zf 176 9 = some (.invokevirtual 298) := cf176_0.2.2.2.2.2.2.1
theorem f176_12 : zf 176 12 = some (.iconst 3) := cf176_0.2.2.2.2.2.2.2.1
theorem f176_13 : zf 176 13 = some (.imul) := cf176_0.2.2.2.2.2.2.2.2.1
theorem f176_14 : zf 176 14 = some (.ireturn) := cf176_0.2.2.2.2.2.2.2.2.2
theorem cf177_0 : zf 177 0 = some (.aload_n 0) ∧ zf 177 1 = some (.getfield 7) ∧ zf 177 4 = some (.iload_n 1) ∧ zf 177 5 = some (.iaload) ∧ zf 177 6 = some (.iconst 1) ∧ zf 177 7 = some (.if_icmp .ne 23) ∧ zf 177 10 = some (.aload_n 0) ∧ zf 177 11 = some (.bipush 20) ∧ zf 177 13 = some (.invokevirtual 291) ∧ zf 177 16 = some (.aload_n 0) ∧ zf 177 17 = some (.iload_n 1) ∧ zf 177 18 = some (.iload_n 2) ∧ zf 177 19 = some (.invokevirtual 301) ∧ zf 177 22 = some (.aload_n 0) ∧ zf 177 23 = some (.getfield 16) ∧ zf 177 26 = some (.iload_n 1) := by decide +kernel
theorem f177_0 : zf 177 0 = some (.aload_n 0) := cf177_0.1
theorem f177_1 : zf 177 1 = some (.getfield 7) := cf177_0.2.1
theorem f177_4 : zf 177 4 = some (.iload_n 1) := cf177_0.2.2.1
theorem f177_5 : zf 177 5 = some (.iaload) := cf177_0.2.2.2.1
theorem f177_6 : zf 177 6 = some (.iconst 1) := cf177_0.2.2.2.2.1
theorem f177_7 : zf 177 7 = some (.if_icmp .ne 23) := cf177_0.2.2.2.2.2.1
theorem f177_10 : zf 177 10 = some (.aload_n 0) := cf177_0.2.2.2.2.2.2.1
theorem f177_11 : zf 177 11 = some (.bipush 20) := cf177_0.2.2.2.2.2.2.2.1
theorem f177_13 : zf 177 13 = some (.invokevirtual 291) := cf177_0.2.2.2.2.2.2.2.2.1
theorem f177_16 : zf 177 16 = some (.aload_n 0) := cf177_0.2.2.2.2.2.2.2.2.2.1
theorem f177_17 : zf 177 17 = some (.iload_n 1) := cf177_0.2.2.2.2.2.2.2.2.2.2.1
theorem f177_18 : zf 177 18 = some (.iload_n 2) := cf177_0.2.2.2.2.2.2.2.2.2.2.2.1
theorem f177_19 : zf 177 19 = some (.invokevirtual 301) := cf177_0.2.2.2.2.2.2.2.2.2.2.2.2.1
theorem f177_22 : zf 177 22 = some (.aload_n 0) := cf177_0.2.2.2.2.2.2.2.2.2.2.2.2.2.1
theorem f177_23 : zf 177 23 = some (.getfield 16) := cf177_0.2.2.2.2.2.2.2.2.2.2.2.2.2.2.1
theorem f177_26 : zf 177 26 = some (.iload_n 1) := cf177_0.2.2.2.2.2.2.2.2.2.2.2.2.2.2.2
theorem cf177_27 : zf 177 27 = some (.iaload) ∧ zf 177 28 = some (.iadd) ∧ zf 177 29 = some (.ireturn) ∧ zf 177 30 = some (.aload_n 0) ∧ zf 177 31 = some (.getfield 7) ∧ zf 177 34 = some (.iload_n 1) ∧ zf 177 35 = some (.iaload) ∧ zf 177 36 = some (.iconst 4) ∧ zf 177 37 = some (.if_icmp .ne 23) ∧ zf 177 40 = some (.aload_n 0) ∧ zf 177 41 = some (.bipush 51) ∧ zf 177 43 = some (.invokevirtual 291) ∧ zf 177 46 = some (.aload_n 0) ∧ zf 177 47 = some (.iload_n 1) ∧ zf 177 48 = some (.iload_n 2) ∧ zf 177 49 = some (.invokevirtual 301) := by decide +kernel
theorem f177_27 : zf 177 27 = some (.iaload) := cf177_27.1
theorem f177_28 : zf 177 28 = some (.iadd) := cf177_27.2.1
theorem f177_29 : zf 177 29 = some (.ireturn) := cf177_27.2.2.1
theorem f177_30 : zf 177 30 = some (.aload_n 0) := cf177_27.2.2.2.1
theorem f177_31 : zf 177 31 = some (.getfield 7) := cf177_27.2.2.2.2.1
theorem f177_34 : zf 177 34 = some (.iload_n 1) := cf177_27.2.2.2.2.2.1
theorem f177_35 : zf 177 35 = some (.iaload) := cf177_27.2.2.2.2.2.2.1
theorem f177_36 : zf 177 36 = some (.iconst 4) := cf177_27.2.2.2.2.2.2.2.1
theorem f177_37 : zf 177 37 = some (.if_icmp .ne 23) := cf177_27.2.2.2.2.2.2.2.2.1
theorem f177_40 : zf 177 40 = some (.aload_n 0) := cf177_27.2.2.2.2.2.2.2.2.2.1
theorem f177_41 : zf 177 41 = some (.bipush 51) := cf177_27.2.2.2.2.2.2.2.2.2.2.1
theorem f177_43 : zf 177 43 = some (.invokevirtual 291) := cf177_27.2.2.2.2.2.2.2.2.2.2.2.1
theorem f177_46 : zf 177 46 = some (.aload_n 0) := cf177_27.2.2.2.2.2.2.2.2.2.2.2.2.1
theorem f177_47 : zf 177 47 = some (.iload_n 1) := cf177_27.2.2.2.2.2.2.2.2.2.2.2.2.2.1
theorem f177_48 : zf 177 48 = some (.iload_n 2) := cf177_27.2.2.2.2.2.2.2.2.2.2.2.2.2.2.1
theorem f177_49 : zf 177 49 = some (.invokevirtual 301) := cf177_27.2.2.2.2.2.2.2.2.2.2.2.2.2.2.2
theorem cf177_52 : zf 177 52 = some (.aload_n 0) ∧ zf 177 53 = some (.getfield 55) ∧ zf 177 56 = some (.iload_n 1) ∧ zf 177 57 = some (.iaload) ∧ zf 177 58 = some (.ixor) ∧ zf 177 59 = some (.ireturn) ∧ zf 177 60 = some (.aload_n 0) ∧ zf 177 61 = some (.iload_n 1) ∧ zf 177 62 = some (.iload_n 2) ∧ zf 177 63 = some (.invokevirtual 301) ∧ zf 177 66 = some (.ireturn) := by decide +kernel
theorem f177_52 : zf 177 52 = some (.aload_n 0) := cf177_52.1
theorem f177_53 : zf 177 53 = some (.getfield 55) := cf177_52.2.1
theorem f177_56 : zf 177 56 = some (.iload_n 1) := cf177_52.2.2.1
theorem f177_57 : zf 177 57 = some (.iaload) := cf177_52.2.2.2.1
theorem f177_58 : zf 177 58 = some (.ixor) := cf177_52.2.2.2.2.1
theorem f177_59 : zf 177 59 = some (.ireturn) := cf177_52.2.2.2.2.2.1
theorem f177_60 : zf 177 60 = some (.aload_n 0) := cf177_52.2.2.2.2.2.2.1
theorem f177_61 : zf 177 61 = some (.iload_n 1) := cf177_52.2.2.2.2.2.2.2.1
theorem f177_62 : zf 177 62 = some (.iload_n 2) := cf177_52.2.2.2.2.2.2.2.2.1
theorem f177_63 : zf 177 63 = some (.invokevirtual 301) := cf177_52.2.2.2.2.2.2.2.2.2.1
theorem f177_66 : zf 177 66 = some (.ireturn) := cf177_52.2.2.2.2.2.2.2.2.2.2
theorem cf178_0 : zf 178 0 = some (.aload_n 0) ∧ zf 178 1 = some (.getfield 7) ∧ zf 178 4 = some (.iload_n 1) ∧ zf 178 5 = some (.iaload) ∧ zf 178 6 = some (.iconst 4) ∧ zf 178 7 = some (.if_icmp .ne 9) ∧ zf 178 10 = some (.aload_n 0) ∧ zf 178 11 = some (.bipush 50) ∧ zf 178 13 = some (.invokevirtual 291) ∧ zf 178 16 = some (.aload_n 0) ∧ zf 178 17 = some (.iload_n 1) ∧ zf 178 18 = some (.invokevirtual 158) ∧ zf 178 21 = some (.ifCond .eq 9) ∧ zf 178 24 = some (.aload_n 0) ∧ zf 178 25 = some (.bipush 40) ∧ zf 178 27 = some (.invokevirtual 291) := by decide +kernel
theorem f178_0 : zf 178 0 = some (.aload_n 0) := cf178_0.1
theorem f178_1 : zf 178 1 = some (.getfield 7) := cf178_0.2.1
theorem f178_4 : zf 178 4 = some (.iload_n 1) := cf178_0.2.2.1
theorem f178_5 : zf 178 5 = some (.iaload) := cf178_0.2.2.2.1
theorem f178_6 : zf 178 6 = some (.iconst 4) := cf178_0.2.2.2.2.1
theorem f178_7 : zf 178 7 = some (.if_icmp .ne 9) := cf178_0.2.2.2.2.2.1
theorem f178_10 : zf 178 10 = some (.aload_n 0) := cf178_0.2.2.2.2.2.2.1
theorem f178_11 : zf 178 11 = some (.bipush 50) := cf178_0.2.2.2.2.2.2.2.1
theorem f178_13 : zf 178 13 = some (.invokevirtual 291) := cf178_0.2.2.2.2.2.2.2.2.1
theorem f178_16 : zf 178 16 = some (.aload_n 0) := cf178_0.2.2.2.2.2.2.2.2.2.1
theorem f178_17 : zf 178 17 = some (.iload_n 1) := cf178_0.2.2.2.2.2.2.2.2.2.2.1
theorem f178_18 : zf 178 18 = some (.invokevirtual 158) := cf178_0.2.2.2.2.2.2.2.2.2.2.2.1
theorem f178_21 : zf 178 21 = some (.ifCond .eq 9) := cf178_0.2.2.2.2.2.2.2.2.2.2.2.2.1
theorem f178_24 : zf 178 24 = some (.aload_n 0) := cf178_0.2.2.2.2.2.2.2.2.2.2.2.2.2.1
theorem f178_25 : zf 178 25 = some (.bipush 40) := cf178_0.2.2.2.2.2.2.2.2.2.2.2.2.2.2.1
theorem f178_27 : zf 178 27 = some (.invokevirtual 291) := cf178_0.2.2.2.2.2.2.2.2.2.2.2.2.2.2.2
theorem cf178_30 : zf 178 30 = some (.aload_n 0) ∧ zf 178 31 = some (.bipush 12) ∧ zf 178 33 = some (.invokevirtual 291) ∧ zf 178 36 = some (.iload_n 2) ∧ zf 178 37 = some (.aload_n 0) ∧ zf 178 38 = some (.getfield 13) ∧ zf 178 41 = some (.iload_n 1) ∧ zf 178 42 = some (.iaload) ∧ zf 178 43 = some (.ixor) ∧ zf 178 44 = some (.aload_n 0) ∧ zf 178 45 = some (.iload_n 1) ∧ zf 178 46 = some (.invokevirtual 158) ∧ zf 178 49 = some (.ifCond .eq 12) ∧ zf 178 52 = some (.aload_n 0) ∧ zf 178 53 = some (.getfield 19) ∧ zf 178 56 = some (.iload_n 1) := by decide +kernel
theorem f178_30 : zf 178 30 = some (.aload_n 0) := cf178_30.1
theorem f178_31 : zf 178 31 = some (.bipush 12) := cf178_30.2.1
theorem f178_33 : zf 178 33 = some (.invokevirtual 291) := cf178_30.2.2.1
theorem f178_36 : zf 178 36 = some (.iload_n 2) := cf178_30.2.2.2.1
theorem f178_37 : zf 178 37 = some (.aload_n 0) := cf178_30.2.2.2.2.1
theorem f178_38 : zf 178 38 = some (.getfield 13) := cf178_30.2.2.2.2.2.1
theorem f178_41 : zf 178 41 = some (.iload_n 1) := cf178_30.2.2.2.2.2.2.1
theorem f178_42 : zf 178 42 = some (.iaload) := cf178_30.2.2.2.2.2.2.2.1
theorem f178_43 : zf 178 43 = some (.ixor) := cf178_30.2.2.2.2.2.2.2.2.1
theorem f178_44 : zf 178 44 = some (.aload_n 0) := cf178_30.2.2.2.2.2.2.2.2.2.1
theorem f178_45 : zf 178 45 = some (.iload_n 1) := cf178_30.2.2.2.2.2.2.2.2.2.2.1
theorem f178_46 : zf 178 46 = some (.invokevirtual 158) := cf178_30.2.2.2.2.2.2.2.2.2.2.2.1
theorem f178_49 : zf 178 49 = some (.ifCond .eq 12) := cf178_30.2.2.2.2.2.2.2.2.2.2.2.2.1
theorem f178_52 : zf 178 52 = some (.aload_n 0) := cf178_30.2.2.2.2.2.2.2.2.2.2.2.2.2.1
theorem f178_53 : zf 178 53 = some (.getfield 19) := cf178_30.2.2.2.2.2.2.2.2.2.2.2.2.2.2.1
theorem f178_56 : zf 178 56 = some (.iload_n 1) := cf178_30.2.2.2.2.2.2.2.2.2.2.2.2.2.2.2
theorem cf178_57 : zf 178 57 = some (.iaload) ∧ zf 178 58 = some (.goto 4) ∧ zf 178 61 = some (.iconst 0) ∧ zf 178 62 = some (.iadd) ∧ zf 178 63 = some (.aload_n 0) ∧ zf 178 64 = some (.getfield 7) ∧ zf 178 67 = some (.iload_n 1) ∧ zf 178 68 = some (.iaload) ∧ zf 178 69 = some (.iconst 4) ∧ zf 178 70 = some (.if_icmp .ne 12) ∧ zf 178 73 = some (.aload_n 0) ∧ zf 178 74 = some (.getfield 55) ∧ zf 178 77 = some (.iload_n 1) ∧ zf 178 78 = some (.iaload) ∧ zf 178 79 = some (.goto 4) ∧ zf 178 82 = some (.iconst 0) := by decide +kernel
theorem f178_57 : zf 178 57 = some (.iaload) := cf178_57.1
theorem f178_58 : zf 178 58 = some (.goto 4) := cf178_57.2.1
theorem f178_61 : zf 178 61 = some (.iconst 0) := cf178_57.2.2.1
theorem f178_62 : zf 178 62 = some (.iadd) := cf178_57.2.2.2.1
theorem f178_63 : zf 178 63 = some (.aload_n 0) := cf178_57.2.2.2.2.1
theorem f178_64 : zf 178 64 = some (.getfield 7) := cf178_57.2.2.2.2.2.1
theorem f178_67 : zf 178 67 = some (.iload_n 1) := cf178_57.2.2.2.2.2.2.1
theorem f178_68 : zf 178 68 = some (.iaload) := cf178_57.2.2.2.2.2.2.2.1
theorem f178_69 : zf 178 69 = some (.iconst 4) := cf178_57.2.2.2.2.2.2.2.2.1
theorem f178_70 : zf 178 70 = some (.if_icmp .ne 12) := cf178_57.2.2.2.2.2.2.2.2.2.1
theorem f178_73 : zf 178 73 = some (.aload_n 0) := cf178_57.2.2.2.2.2.2.2.2.2.2.1
theorem f178_74 : zf 178 74 = some (.getfield 55) := cf178_57.2.2.2.2.2.2.2.2.2.2.2.1
theorem f178_77 : zf 178 77 = some (.iload_n 1) := cf178_57.2.2.2.2.2.2.2.2.2.2.2.2.1
theorem f178_78 : zf 178 78 = some (.iaload) := cf178_57.2.2.2.2.2.2.2.2.2.2.2.2.2.1
theorem f178_79 : zf 178 79 = some (.goto 4) := cf178_57.2.2.2.2.2.2.2.2.2.2.2.2.2.2.1
theorem f178_82 : zf 178 82 = some (.iconst 0) := cf178_57.2.2.2.2.2.2.2.2.2.2.2.2.2.2.2
theorem cf178_83 : zf 178 83 = some (.iadd) ∧ zf 178 84 = some (.ireturn) := by decide +kernel
theorem f178_83 : zf 178 83 = some (.iadd) := cf178_83.1
theorem f178_84 : zf 178 84 = some (.ireturn) := cf178_83.2
theorem cf179_0 : zf 179 0 = some (.iload_n 2) ∧ zf 179 1 = some (.istore_n 3) ∧ zf 179 2 = some (.aload_n 0) ∧ zf 179 3 = some (.getfield 7) ∧ zf 179 6 = some (.iload_n 1) ∧ zf 179 7 = some (.iaload) ∧ zf 179 8 = some (.iconst 1) ∧ zf 179 9 = some (.if_icmp .ne 13) ∧ zf 179 12 = some (.aload_n 0) ∧ zf 179 13 = some (.bipush 21) ∧ zf 179 15 = some (.invokevirtual 291) ∧ zf 179 18 = some (.iload_n 2) ∧ zf 179 19 = some (.iconst 2) ∧ zf 179 20 = some (.imul) ∧ zf 179 21 = some (.istore_n 3) ∧ zf 179 22 = some (.aload_n 0) := by decide +kernel
theorem f179_0 : zf 179 0 = some (.iload_n 2) := cf179_0.1
theorem f179_1 : zf 179 1 = some (.istore_n 3) := cf179_0.2.1
theorem f179_2 : zf 179 2 = some (.aload_n 0) := cf179_0.2.2.1
theorem f179_3 : zf 179 3 = some (.getfield 7) := cf179_0.2.2.2.1
theorem f179_6 : zf 179 6 = some (.iload_n 1) := cf179_0.2.2.2.2.1
theorem f179_7 : zf 179 7 = some (.iaload) := cf179_0.2.2.2.2.2.1
theorem f179_8 : zf 179 8 = some (.iconst 1) := cf179_0.2.2.2.2.2.2.1
theorem f179_9 : zf 179 9 = some (.if_icmp .ne 13) := cf179_0.2.2.2.2.2.2.2.1
theorem f179_12 : zf 179 12 = some (.aload_n 0) := cf179_0.2.2.2.2.2.2.2.2.1
theorem f179_13 : zf 179 13 = some (.bipush 21) := cf179_0.2.2.2.2.2.2.2.2.2.1
theorem f179_15 : zf 179 15 = some (.invokevirtual 291) := cf179_0.2.2.2.2.2.2.2.2.2.2.1
theorem f179_18 : zf 179 18 = some (.iload_n 2) := cf179_0.2.2.2.2.2.2.2.2.2.2.2.1
theorem f179_19 : zf 179 19 = some (.iconst 2) := cf179_0.2.2.2.2.2.2.2.2.2.2.2.2.1
theorem f179_20 : zf 179 20 = some (.imul) := cf179_0.2.2.2.2.2.2.2.2.2.2.2.2.2.1
theorem f179_21 : zf 179 21 = some (.istore_n 3) := cf179_0.2.2.2.2.2.2.2.2.2.2.2.2.2.2.1
theorem f179_22 : zf 179 22 = some (.aload_n 0) := cf179_0.2.2.2.2.2.2.2.2.2.2.2.2.2.2.2
theorem cf179_23 : zf 179 23 = some (.bipush 13) ∧ zf 179 25 = some (.invokevirtual 291) ∧ zf 179 28 = some (.aload_n 0) ∧ zf 179 29 = some (.iload_n 1) ∧ zf 179 30 = some (.iload_n 3) ∧ zf 179 31 = some (.invokevirtual 304) ∧ zf 179 34 = some (.istore 4) ∧ zf 179 36 = some (.iload 4) ∧ zf 179 38 = some (.aload_n 0) ∧ zf 179 39 = some (.iload_n 1) ∧ zf 179 40 = some (.iload_n 3) ∧ zf 179 41 = some (.invokevirtual 307) ∧ zf 179 44 = some (.isub) ∧ zf 179 45 = some (.ireturn) := by decide +kernel
theorem f179_23 : zf 179 23 = some (.bipush 13) := cf179_23.1
theorem f179_25 : zf 179 25 = some (.invokevirtual 291) := cf179_23.2.1
theorem f179_28 : zf 179 28 = some (.aload_n 0) := cf179_23.2.2.1
theorem f179_29 : zf 179 29 = some (.iload_n 1) := cf179_23.2.2.2.1
theorem f179_30 : zf 179 30 = some (.iload_n 3) := cf179_23.2.2.2.2.1
theorem f179_31 : zf 179 31 = some (.invokevirtual 304) := cf179_23.2.2.2.2.2.1
theorem f179_34 : zf 179 34 = some (.istore 4) := cf179_23.2.2.2.2.2.2.1
theorem f179_36 : zf 179 36 = some (.iload 4) := cf179_23.2.2.2.2.2.2.2.1
theorem f179_38 : zf 179 38 = some (.aload_n 0) := cf179_23.2.2.2.2.2.2.2.2.1
theorem f179_39 : zf 179 39 = some (.iload_n 1) := cf179_23.2.2.2.2.2.2.2.2.2.1
theorem f179_40 : zf 179 40 = some (.iload_n 3) := cf179_23.2.2.2.2.2.2.2.2.2.2.1
theorem f179_41 : zf 179 41 = some (.invokevirtual 307) := cf179_23.2.2.2.2.2.2.2.2.2.2.2.1
theorem f179_44 : zf 179 44 = some (.isub) := cf179_23.2.2.2.2.2.2.2.2.2.2.2.2.1
theorem f179_45 : zf 179 45 = some (.ireturn) := cf179_23.2.2.2.2.2.2.2.2.2.2.2.2.2
theorem cf180_0 : zf 180 0 = some (.aload_n 0) ∧ zf 180 1 = some (.iload_n 1) ∧ zf 180 2 = some (.invokevirtual 215) ∧ zf 180 5 = some (.ifCond .eq 12) ∧ zf 180 8 = some (.iload_n 2) ∧ zf 180 9 = some (.iconst 0) ∧ zf 180 10 = some (.iconst 3) ∧ zf 180 11 = some (.invokestatic 117) ∧ zf 180 14 = some (.ifCond .ne 9) ∧ zf 180 17 = some (.aload_n 0) ∧ zf 180 18 = some (.iconst 1) ∧ zf 180 19 = some (.invokevirtual 209) ∧ zf 180 22 = some (.ireturn) ∧ zf 180 23 = some (.aload_n 0) ∧ zf 180 24 = some (.iconst 0) ∧ zf 180 25 = some (.putfield 246) := by decide +kernel
theorem f180_0 : zf 180 0 = some (.aload_n 0) := cf180_0.1
theorem f180_1 : zf 180 1 = some (.iload_n 1) := cf180_0.2.1
theorem f180_2 : zf 180 2 = some (.invokevirtual 215) := cf180_0.2.2.1
theorem f180_5 : zf 180 5 = some (.ifCond .eq 12) := cf180_0.2.2.2.1
theorem f180_8 : zf 180 8 = some (.iload_n 2) := cf180_0.2.2.2.2.1
theorem f180_9 : zf 180 9 = some (.iconst 0) := cf180_0.2.2.2.2.2.1
theorem f180_10 : zf 180 10 = some (.iconst 3) := cf180_0.2.2.2.2.2.2.1
theorem f180_11 : zf 180 11 = some (.invokestatic 117) := cf180_0.2.2.2.2.2.2.2.1
theorem f180_14 : zf 180 14 = some (.ifCond .ne 9) := cf180_0.2.2.2.2.2.2.2.2.1
theorem f180_17 : zf 180 17 = some (.aload_n 0) := cf180_0.2.2.2.2.2.2.2.2.2.1
theorem f180_18 : zf 180 18 = some (.iconst 1) := cf180_0.2.2.2.2.2.2.2.2.2.2.1
theorem f180_19 : zf 180 19 = some (.invokevirtual 209) := cf180_0.2.2.2.2.2.2.2.2.2.2.2.1
theorem f180_22 : zf 180 22 = some (.ireturn) := cf180_0.2.2.2.2.2.2.2.2.2.2.2.2.1
theorem f180_23 : zf 180 23 = some (.aload_n 0) := cf180_0.2.2.2.2.2.2.2.2.2.2.2.2.2.1
theorem f180_24 : zf 180 24 = some (.iconst 0) := cf180_0.2.2.2.2.2.2.2.2.2.2.2.2.2.2.1
theorem f180_25 : zf 180 25 = some (.putfield 246) := cf180_0.2.2.2.2.2.2.2.2.2.2.2.2.2.2.2
theorem cf180_28 : zf 180 28 = some (.aload_n 0) ∧ zf 180 29 = some (.iload_n 2) ∧ zf 180 30 = some (.ifCond .ne 12) ∧ zf 180 33 = some (.aload_n 0) ∧ zf 180 34 = some (.iload_n 1) ∧ zf 180 35 = some (.iload_n 3) ∧ zf 180 36 = some (.invokevirtual 298) ∧ zf 180 39 = some (.goto 37) ∧ zf 180 42 = some (.iload_n 2) ∧ zf 180 43 = some (.iconst 1) ∧ zf 180 44 = some (.if_icmp .ne 12) ∧ zf 180 47 = some (.aload_n 0) ∧ zf 180 48 = some (.iload_n 1) ∧ zf 180 49 = some (.iload_n 3) ∧ zf 180 50 = some (.invokevirtual 304) ∧ zf 180 53 = some (.goto 23) := by decide +kernel
theorem f180_28 : zf 180 28 = some (.aload_n 0) := cf180_28.1
theorem f180_29 : zf 180 29 = some (.iload_n 2) := cf180_28.2.1
theorem f180_30 : zf 180 30 = some (.ifCond .ne 12) := cf180_28.2.2.1
theorem f180_33 : zf 180 33 = some (.aload_n 0) := cf180_28.2.2.2.1
theorem f180_34 : zf 180 34 = some (.iload_n 1) := cf180_28.2.2.2.2.1
theorem f180_35 : zf 180 35 = some (.iload_n 3) := cf180_28.2.2.2.2.2.1
theorem f180_36 : zf 180 36 = some (.invokevirtual 298) := cf180_28.2.2.2.2.2.2.1
theorem f180_39 : zf 180 39 = some (.goto 37) := cf180_28.2.2.2.2.2.2.2.1
theorem f180_42 : zf 180 42 = some (.iload_n 2) := cf180_28.2.2.2.2.2.2.2.2.1
theorem f180_43 : zf 180 43 = some (.iconst 1) := cf180_28.2.2.2.2.2.2.2.2.2.1
theorem f180_44 : zf 180 44 = some (.if_icmp .ne 12) := cf180_28.2.2.2.2.2.2.2.2.2.2.1
theorem f180_47 : zf 180 47 = some (.aload_n 0) := cf180_28.2.2.2.2.2.2.2.2.2.2.2.1
theorem f180_48 : zf 180 48 = some (.iload_n 1) := cf180_28.2.2.2.2.2.2.2.2.2.2.2.2.1
theorem f180_49 : zf 180 49 = some (.iload_n 3) := cf180_28.2.2.2.2.2.2.2.2.2.2.2.2.2.1
theorem f180_50 : zf 180 50 = some (.invokevirtual 304) := cf180_28.2.2.2.2.2.2.2.2.2.2.2.2.2.2.1
theorem f180_53 : zf 180 53 = some (.goto 23) := cf180_28.2.2.2.2.2.2.2.2.2.2.2.2.2.2.2
theorem cf180_56 : zf 180 56 = some (.iload_n 2) ∧ zf 180 57 = some (.iconst 2) ∧ zf 180 58 = some (.if_icmp .ne 12) ∧ zf 180 61 = some (.aload_n 0) ∧ zf 180 62 = some (.iload_n 1) ∧ zf 180 63 = some (.iload_n 3) ∧ zf 180 64 = some (.invokevirtual 307) ∧ zf 180 67 = some (.goto 9) ∧ zf 180 70 = some (.aload_n 0) ∧ zf 180 71 = some (.iload_n 1) ∧ zf 180 72 = some (.iload_n 3) ∧ zf 180 73 = some (.invokevirtual 310) ∧ zf 180 76 = some (.invokevirtual 205) ∧ zf 180 79 = some (.ireturn) := by decide +kernel
theorem f180_56 : zf 180 56 = some (.iload_n 2) := cf180_56.1
theorem f180_57 : zf 180 57 = some (.iconst 2) := cf180_56.2.1
theorem f180_58 : zf 180 58 = some (.if_icmp .ne 12) := cf180_56.2.2.1
theorem f180_61 : zf 180 61 = some (.aload_n 0) := cf180_56.2.2.2.1
theorem f180_62 : zf 180 62 = some (.iload_n 1) := cf180_56.2.2.2.2.1
theorem f180_63 : zf 180 63 = some (.iload_n 3) := cf180_56.2.2.2.2.2.1
theorem f180_64 : zf 180 64 = some (.invokevirtual 307) := cf180_56.2.2.2.2.2.2.1
theorem f180_67 : zf 180 67 = some (.goto 9) := cf180_56.2.2.2.2.2.2.2.1
theorem f180_70 : zf 180 70 = some (.aload_n 0) := cf180_56.2.2.2.2.2.2.2.2.1
theorem f180_71 : zf 180 71 = some (.iload_n 1) := cf180_56.2.2.2.2.2.2.2.2.2.1
theorem f180_72 : zf 180 72 = some (.iload_n 3) := cf180_56.2.2.2.2.2.2.2.2.2.2.1
theorem f180_73 : zf 180 73 = some (.invokevirtual 310) := cf180_56.2.2.2.2.2.2.2.2.2.2.2.1
theorem f180_76 : zf 180 76 = some (.invokevirtual 205) := cf180_56.2.2.2.2.2.2.2.2.2.2.2.2.1
theorem f180_79 : zf 180 79 = some (.ireturn) := cf180_56.2.2.2.2.2.2.2.2.2.2.2.2.2
theorem cf181_0 : zf 181 0 = some (.iload_n 1) ∧ zf 181 1 = some (.iconst 0) ∧ zf 181 2 = some (.aload_n 0) ∧ zf 181 3 = some (.getfield 246) ∧ zf 181 6 = some (.bipush 50) ∧ zf 181 8 = some (.if_icmp .ge 10) ∧ zf 181 11 = some (.aload_n 0) ∧ zf 181 12 = some (.getfield 246) ∧ zf 181 15 = some (.goto 5) ∧ zf 181 18 = some (.bipush 50) ∧ zf 181 20 = some (.iconst 1) ∧ zf 181 21 = some (.isub) ∧ zf 181 22 = some (.invokestatic 117) ∧ zf 181 25 = some (.ifCond .eq 12) ∧ zf 181 28 = some (.aload_n 0) ∧ zf 181 29 = some (.getfield 74) := by decide +kernel
theorem f181_0 : zf 181 0 = some (.iload_n 1) := cf181_0.1
theorem f181_1 : zf 181 1 = some (.iconst 0) := cf181_0.2.1
theorem f181_2 : zf 181 2 = some (.aload_n 0) := cf181_0.2.2.1
theorem f181_3 : zf 181 3 = some (.getfield 246) := cf181_0.2.2.2.1
theorem f181_6 : zf 181 6 = some (.bipush 50) := cf181_0.2.2.2.2.1
theorem f181_8 : zf 181 8 = some (.if_icmp .ge 10) := cf181_0.2.2.2.2.2.1
theorem f181_11 : zf 181 11 = some (.aload_n 0) := cf181_0.2.2.2.2.2.2.1
theorem f181_12 : zf 181 12 = some (.getfield 246) := cf181_0.2.2.2.2.2.2.2.1
theorem f181_15 : zf 181 15 = some (.goto 5) := cf181_0.2.2.2.2.2.2.2.2.1
theorem f181_18 : zf 181 18 = some (.bipush 50) := cf181_0.2.2.2.2.2.2.2.2.2.1
theorem f181_20 : zf 181 20 = some (.iconst 1) := cf181_0.2.2.2.2.2.2.2.2.2.2.1
theorem f181_21 : zf 181 21 = some (.isub) := cf181_0.2.2.2.2.2.2.2.2.2.2.2.1
theorem f181_22 : zf 181 22 = some (.invokestatic 117) := cf181_0.2.2.2.2.2.2.2.2.2.2.2.2.1
theorem f181_25 : zf 181 25 = some (.ifCond .eq 12) := cf181_0.2.2.2.2.2.2.2.2.2.2.2.2.2.1
theorem f181_28 : zf 181 28 = some (.aload_n 0) := cf181_0.2.2.2.2.2.2.2.2.2.2.2.2.2.2.1
theorem f181_29 : zf 181 29 = some (.getfield 74) := cf181_0.2.2.2.2.2.2.2.2.2.2.2.2.2.2.2
theorem cf181_32 : zf 181 32 = some (.iload_n 1) ∧ zf 181 33 = some (.iaload) ∧ zf 181 34 = some (.goto 4) ∧ zf 181 37 = some (.iconst (-1)) ∧ zf 181 38 = some (.ireturn) := by decide +kernel
theorem f181_32 : zf 181 32 = some (.iload_n 1) := cf181_32.1
theorem f181_33 : zf 181 33 = some (.iaload) := cf181_32.2.1
theorem f181_34 : zf 181 34 = some (.goto 4) := cf181_32.2.2.1
theorem f181_37 : zf 181 37 = some (.iconst (-1)) := cf181_32.2.2.2.1
theorem f181_38 : zf 181 38 = some (.ireturn) := cf181_32.2.2.2.2
theorem cf182_0 : zf 182 0 = some (.iload_n 0) ∧ zf 182 1 = some (.iload_n 1) ∧ zf 182 2 = some (.irem) ∧ zf 182 3 = some (.iload_n 1) ∧ zf 182 4 = some (.iadd) ∧ zf 182 5 = some (.iload_n 1) ∧ zf 182 6 = some (.irem) ∧ zf 182 7 = some (.ireturn) := by decide +kernel
theorem f182_0 : zf 182 0 = some (.iload_n 0) := cf182_0.1
theorem f182_1 : zf 182 1 = some (.iload_n 1) := cf182_0.2.1
theorem f182_2 : zf 182 2 = some (.irem) := cf182_0.2.2.1
theorem f182_3 : zf 182 3 = some (.iload_n 1) := cf182_0.2.2.2.1
theorem f182_4 : zf 182 4 = some (.iadd) := cf182_0.2.2.2.2.1
theorem f182_5 : zf 182 5 = some (.iload_n 1) := cf182_0.2.2.2.2.2.1
theorem f182_6 : zf 182 6 = some (.irem) := cf182_0.2.2.2.2.2.2.1
theorem f182_7 : zf 182 7 = some (.ireturn) := cf182_0.2.2.2.2.2.2.2
theorem cf183_0 : zf 183 0 = some (.iconst 0) ∧ zf 183 1 = some (.istore_n 3) ∧ zf 183 2 = some (.iload_n 1) ∧ zf 183 3 = some (.istore 4) ∧ zf 183 5 = some (.iload 4) ∧ zf 183 7 = some (.iload_n 1) ∧ zf 183 8 = some (.iload_n 2) ∧ zf 183 9 = some (.iadd) ∧ zf 183 10 = some (.if_icmp .ge 19) ∧ zf 183 13 = some (.iload_n 3) ∧ zf 183 14 = some (.aload_n 0) ∧ zf 183 15 = some (.getfield 13) ∧ zf 183 18 = some (.iload 4) ∧ zf 183 20 = some (.iaload) ∧ zf 183 21 = some (.iadd) ∧ zf 183 22 = some (.istore_n 3) := by decide +kernel
theorem f183_0 : zf 183 0 = some (.iconst 0) := cf183_0.1
theorem f183_1 : zf 183 1 = some (.istore_n 3) := cf183_0.2.1
theorem f183_2 : zf 183 2 = some (.iload_n 1) := cf183_0.2.2.1
theorem f183_3 : zf 183 3 = some (.istore 4) := cf183_0.2.2.2.1
theorem f183_5 : zf 183 5 = some (.iload 4) := cf183_0.2.2.2.2.1
theorem f183_7 : zf 183 7 = some (.iload_n 1) := cf183_0.2.2.2.2.2.1
theorem f183_8 : zf 183 8 = some (.iload_n 2) := cf183_0.2.2.2.2.2.2.1
theorem f183_9 : zf 183 9 = some (.iadd) := cf183_0.2.2.2.2.2.2.2.1
theorem f183_10 : zf 183 10 = some (.if_icmp .ge 19) := cf183_0.2.2.2.2.2.2.2.2.1
theorem f183_13 : zf 183 13 = some (.iload_n 3) := cf183_0.2.2.2.2.2.2.2.2.2.1
theorem f183_14 : zf 183 14 = some (.aload_n 0) := cf183_0.2.2.2.2.2.2.2.2.2.2.1
theorem f183_15 : zf 183 15 = some (.getfield 13) := cf183_0.2.2.2.2.2.2.2.2.2.2.2.1
theorem f183_18 : zf 183 18 = some (.iload 4) := cf183_0.2.2.2.2.2.2.2.2.2.2.2.2.1
theorem f183_20 : zf 183 20 = some (.iaload) := cf183_0.2.2.2.2.2.2.2.2.2.2.2.2.2.1
theorem f183_21 : zf 183 21 = some (.iadd) := cf183_0.2.2.2.2.2.2.2.2.2.2.2.2.2.2.1
theorem f183_22 : zf 183 22 = some (.istore_n 3) := cf183_0.2.2.2.2.2.2.2.2.2.2.2.2.2.2.2
theorem cf183_23 : zf 183 23 = some (.iinc 4 1) ∧ zf 183 26 = some (.goto (-21)) ∧ zf 183 29 = some (.iload_n 3) ∧ zf 183 30 = some (.ireturn) := by decide +kernel
theorem f183_23 : zf 183 23 = some (.iinc 4 1) := cf183_23.1
theorem f183_26 : zf 183 26 = some (.goto (-21)) := cf183_23.2.1
theorem f183_29 : zf 183 29 = some (.iload_n 3) := cf183_23.2.2.1
theorem f183_30 : zf 183 30 = some (.ireturn) := cf183_23.2.2.2
theorem cf184_0 : zf 184 0 = some (.iload_n 1) ∧ zf 184 1 = some (.iconst 0) ∧ zf 184 2 = some (.bipush 6) ∧ zf 184 4 = some (.invokestatic 117) ∧ zf 184 7 = some (.ifCond .eq 25) ∧ zf 184 10 = some (.iload_n 2) ∧ zf 184 11 = some (.bipush (-100)) ∧ zf 184 13 = some (.bipush 100) ∧ zf 184 15 = some (.invokestatic 117) ∧ zf 184 18 = some (.ifCond .eq 14) ∧ zf 184 21 = some (.iload_n 3) ∧ zf 184 22 = some (.bipush (-100)) ∧ zf 184 24 = some (.bipush 100) ∧ zf 184 26 = some (.invokestatic 117) ∧ zf 184 29 = some (.ifCond .ne 9) ∧ zf 184 32 = some (.aload_n 0) := by decide +kernel
theorem f184_0 : zf 184 0 = some (.iload_n 1) := cf184_0.1
theorem f184_1 : zf 184 1 = some (.iconst 0) := cf184_0.2.1
theorem f184_2 : zf 184 2 = some (.bipush 6) := cf184_0.2.2.1
theorem f184_4 : zf 184 4 = some (.invokestatic 117) := cf184_0.2.2.2.1
theorem f184_7 : zf 184 7 = some (.ifCond .eq 25) := cf184_0.2.2.2.2.1
theorem f184_10 : zf 184 10 = some (.iload_n 2) := cf184_0.2.2.2.2.2.1
theorem f184_11 : zf 184 11 = some (.bipush (-100)) := cf184_0.2.2.2.2.2.2.1
theorem f184_13 : zf 184 13 = some (.bipush 100) := cf184_0.2.2.2.2.2.2.2.1
theorem f184_15 : zf 184 15 = some (.invokestatic 117) := cf184_0.2.2.2.2.2.2.2.2.1
theorem f184_18 : zf 184 18 = some (.ifCond .eq 14) := cf184_0.2.2.2.2.2.2.2.2.2.1
theorem f184_21 : zf 184 21 = some (.iload_n 3) := cf184_0.2.2.2.2.2.2.2.2.2.2.1
theorem f184_22 : zf 184 22 = some (.bipush (-100)) := cf184_0.2.2.2.2.2.2.2.2.2.2.2.1
theorem f184_24 : zf 184 24 = some (.bipush 100) := cf184_0.2.2.2.2.2.2.2.2.2.2.2.2.1
theorem f184_26 : zf 184 26 = some (.invokestatic 117) := cf184_0.2.2.2.2.2.2.2.2.2.2.2.2.2.1
theorem f184_29 : zf 184 29 = some (.ifCond .ne 9) := cf184_0.2.2.2.2.2.2.2.2.2.2.2.2.2.2.1
theorem f184_32 : zf 184 32 = some (.aload_n 0) := cf184_0.2.2.2.2.2.2.2.2.2.2.2.2.2.2.2
theorem cf184_33 : zf 184 33 = some (.iconst 1) ∧ zf 184 34 = some (.invokevirtual 209) ∧ zf 184 37 = some (.ireturn) ∧ zf 184 38 = some (.iload_n 3) ∧ zf 184 39 = some (.bipush 8) ∧ zf 184 41 = some (.invokestatic 313) ∧ zf 184 44 = some (.istore 4) ∧ zf 184 46 = some (.iload_n 1) ∧ zf 184 47 = some (.tableswitch 282 0 5 #[37, 115, 134, 168, 212, 259]) ∧ zf 184 84 = some (.iload_n 2) ∧ zf 184 85 = some (.iconst 5) ∧ zf 184 86 = some (.invokestatic 313) ∧ zf 184 89 = some (.istore 5) ∧ zf 184 91 = some (.aload_n 0) ∧ zf 184 92 = some (.iload 4) ∧ zf 184 94 = some (.invokevirtual 215) := by decide +kernel
theorem f184_33 : zf 184 33 = some (.iconst 1) := cf184_33.1
theorem f184_34 : zf 184 34 = some (.invokevirtual 209) := cf184_33.2.1
theorem f184_37 : zf 184 37 = some (.ireturn) := cf184_33.2.2.1
theorem f184_38 : zf 184 38 = some (.iload_n 3) := cf184_33.2.2.2.1
theorem f184_39 : zf 184 39 = some (.bipush 8) := cf184_33.2.2.2.2.1
theorem f184_41 : zf 184 41 = some (.invokestatic 313) := cf184_33.2.2.2.2.2.1
theorem f184_44 : zf 184 44 = some (.istore 4) := cf184_33.2.2.2.2.2.2.1
theorem f184_46 : zf 184 46 = some (.iload_n 1) := cf184_33.2.2.2.2.2.2.2.1
theorem f184_47 : zf 184 47 = some (.tableswitch 282 0 5 #[37, 115, 134, 168, 212, 259]) := cf184_33.2.2.2.2.2.2.2.2.1
theorem f184_84 : zf 184 84 = some (.iload_n 2) := cf184_33.2.2.2.2.2.2.2.2.2.1
theorem f184_85 : zf 184 85 = some (.iconst 5) := cf184_33.2.2.2.2.2.2.2.2.2.2.1
theorem f184_86 : zf 184 86 = some (.invokestatic 313) := cf184_33.2.2.2.2.2.2.2.2.2.2.2.1
theorem f184_89 : zf 184 89 = some (.istore 5) := cf184_33.2.2.2.2.2.2.2.2.2.2.2.2.1
theorem f184_91 : zf 184 91 = some (.aload_n 0) := cf184_33.2.2.2.2.2.2.2.2.2.2.2.2.2.1
theorem f184_92 : zf 184 92 = some (.iload 4) := cf184_33.2.2.2.2.2.2.2.2.2.2.2.2.2.2.1
theorem f184_94 : zf 184 94 = some (.invokevirtual 215) := cf184_33.2.2.2.2.2.2.2.2.2.2.2.2.2.2.2
theorem cf184_97 : zf 184 97 = some (.ifCond .ne 10) ∧ zf 184 100 = some (.aload_n 0) ∧ zf 184 101 = some (.bipush 10) ∧ zf 184 103 = some (.invokevirtual 209) ∧ zf 184 106 = some (.ireturn) ∧ zf 184 107 = some (.iload 5) ∧ zf 184 109 = some (.ifCond .eq 32) ∧ zf 184 112 = some (.iload 5) ∧ zf 184 114 = some (.aload_n 0) ∧ zf 184 115 = some (.getfield 7) ∧ zf 184 118 = some (.iload 4) ∧ zf 184 120 = some (.iaload) ∧ zf 184 121 = some (.if_icmp .eq 20) ∧ zf 184 124 = some (.iload 5) ∧ zf 184 126 = some (.iconst 3) ∧ zf 184 127 = some (.if_icmp .ne 28) := by decide +kernel
theorem f184_97 : zf 184 97 = some (.ifCond .ne 10) := cf184_97.1
theorem f184_100 : zf 184 100 = some (.aload_n 0) := cf184_97.2.1
theorem f184_101 : zf 184 101 = some (.bipush 10) := cf184_97.2.2.1
theorem f184_103 : zf 184 103 = some (.invokevirtual 209) := cf184_97.2.2.2.1
theorem f184_106 : zf 184 106 = some (.ireturn) := cf184_97.2.2.2.2.1
theorem f184_107 : zf 184 107 = some (.iload 5) := cf184_97.2.2.2.2.2.1
theorem f184_109 : zf 184 109 = some (.ifCond .eq 32) := cf184_97.2.2.2.2.2.2.1
theorem f184_112 : zf 184 112 = some (.iload 5) := cf184_97.2.2.2.2.2.2.2.1
theorem f184_114 : zf 184 114 = some (.aload_n 0) := cf184_97.2.2.2.2.2.2.2.2.1
theorem f184_115 : zf 184 115 = some (.getfield 7) := cf184_97.2.2.2.2.2.2.2.2.2.1
theorem f184_118 : zf 184 118 = some (.iload 4) := cf184_97.2.2.2.2.2.2.2.2.2.2.1
theorem f184_120 : zf 184 120 = some (.iaload) := cf184_97.2.2.2.2.2.2.2.2.2.2.2.1
theorem f184_121 : zf 184 121 = some (.if_icmp .eq 20) := cf184_97.2.2.2.2.2.2.2.2.2.2.2.2.1
theorem f184_124 : zf 184 124 = some (.iload 5) := cf184_97.2.2.2.2.2.2.2.2.2.2.2.2.2.1
theorem f184_126 : zf 184 126 = some (.iconst 3) := cf184_97.2.2.2.2.2.2.2.2.2.2.2.2.2.2.1
theorem f184_127 : zf 184 127 = some (.if_icmp .ne 28) := cf184_97.2.2.2.2.2.2.2.2.2.2.2.2.2.2.2
theorem cf184_130 : zf 184 130 = some (.aload_n 0) ∧ zf 184 131 = some (.getfield 7) ∧ zf 184 134 = some (.iload 4) ∧ zf 184 136 = some (.iaload) ∧ zf 184 137 = some (.iconst 4) ∧ zf 184 138 = some (.if_icmp .ne 17) ∧ zf 184 141 = some (.aload_n 0) ∧ zf 184 142 = some (.aload_n 0) ∧ zf 184 143 = some (.getfield 7) ∧ zf 184 146 = some (.iload 4) ∧ zf 184 148 = some (.iaload) ∧ zf 184 149 = some (.invokevirtual 205) ∧ zf 184 152 = some (.goto 9) ∧ zf 184 155 = some (.aload_n 0) ∧ zf 184 156 = some (.bipush 11) ∧ zf 184 158 = some (.invokevirtual 209) := by decide +kernel
theorem f184_130 : zf 184 130 = some (.aload_n 0) := cf184_130.1
theorem f184_131 : zf 184 131 = some (.getfield 7) := cf184_130.2.1
theorem f184_134 : zf 184 134 = some (.iload 4) := cf184_130.2.2.1
theorem f184_136 : zf 184 136 = some (.iaload) := cf184_130.2.2.2.1
theorem f184_137 : zf 184 137 = some (.iconst 4) := cf184_130.2.2.2.2.1
theorem f184_138 : zf 184 138 = some (.if_icmp .ne 17) := cf184_130.2.2.2.2.2.1
theorem f184_141 : zf 184 141 = some (.aload_n 0) := cf184_130.2.2.2.2.2.2.1
theorem f184_142 : zf 184 142 = some (.aload_n 0) := cf184_130.2.2.2.2.2.2.2.1
theorem f184_143 : zf 184 143 = some (.getfield 7) := cf184_130.2.2.2.2.2.2.2.2.1
theorem f184_146 : zf 184 146 = some (.iload 4) := cf184_130.2.2.2.2.2.2.2.2.2.1
theorem f184_148 : zf 184 148 = some (.iaload) := cf184_130.2.2.2.2.2.2.2.2.2.2.1
theorem f184_149 : zf 184 149 = some (.invokevirtual 205) := cf184_130.2.2.2.2.2.2.2.2.2.2.2.1
theorem f184_152 : zf 184 152 = some (.goto 9) := cf184_130.2.2.2.2.2.2.2.2.2.2.2.2.1
theorem f184_155 : zf 184 155 = some (.aload_n 0) := cf184_130.2.2.2.2.2.2.2.2.2.2.2.2.2.1
theorem f184_156 : zf 184 156 = some (.bipush 11) := cf184_130.2.2.2.2.2.2.2.2.2.2.2.2.2.2.1
theorem f184_158 : zf 184 158 = some (.invokevirtual 209) := cf184_130.2.2.2.2.2.2.2.2.2.2.2.2.2.2.2
theorem cf184_161 : zf 184 161 = some (.ireturn) ∧ zf 184 162 = some (.iload_n 2) ∧ zf 184 163 = some (.ifCond .ge 12) ∧ zf 184 166 = some (.aload_n 0) ∧ zf 184 167 = some (.bipush 13) ∧ zf 184 169 = some (.invokevirtual 209) ∧ zf 184 172 = some (.goto 8) ∧ zf 184 175 = some (.aload_n 0) ∧ zf 184 176 = some (.iload_n 2) ∧ zf 184 177 = some (.invokevirtual 205) ∧ zf 184 180 = some (.ireturn) ∧ zf 184 181 = some (.iload_n 2) ∧ zf 184 182 = some (.iconst 0) ∧ zf 184 183 = some (.aload_n 0) ∧ zf 184 184 = some (.getfield 114) ∧ zf 184 187 = some (.iconst 1) := by decide +kernel
theorem f184_161 : zf 184 161 = some (.ireturn) := cf184_161.1
theorem f184_162 : zf 184 162 = some (.iload_n 2) := cf184_161.2.1
theorem f184_163 : zf 184 163 = some (.ifCond .ge 12) := cf184_161.2.2.1
theorem f184_166 : zf 184 166 = some (.aload_n 0) := cf184_161.2.2.2.1
theorem f184_167 : zf 184 167 = some (.bipush 13) := cf184_161.2.2.2.2.1
theorem f184_169 : zf 184 169 = some (.invokevirtual 209) := cf184_161.2.2.2.2.2.1
theorem f184_172 : zf 184 172 = some (.goto 8) := cf184_161.2.2.2.2.2.2.1
theorem f184_175 : zf 184 175 = some (.aload_n 0) := cf184_161.2.2.2.2.2.2.2.1
theorem f184_176 : zf 184 176 = some (.iload_n 2) := cf184_161.2.2.2.2.2.2.2.2.1
theorem f184_177 : zf 184 177 = some (.invokevirtual 205) := cf184_161.2.2.2.2.2.2.2.2.2.1
theorem f184_180 : zf 184 180 = some (.ireturn) := cf184_161.2.2.2.2.2.2.2.2.2.2.1
theorem f184_181 : zf 184 181 = some (.iload_n 2) := cf184_161.2.2.2.2.2.2.2.2.2.2.2.1
theorem f184_182 : zf 184 182 = some (.iconst 0) := cf184_161.2.2.2.2.2.2.2.2.2.2.2.2.1
theorem f184_183 : zf 184 183 = some (.aload_n 0) := cf184_161.2.2.2.2.2.2.2.2.2.2.2.2.2.1
theorem f184_184 : zf 184 184 = some (.getfield 114) := cf184_161.2.2.2.2.2.2.2.2.2.2.2.2.2.2.1
theorem f184_187 : zf 184 187 = some (.iconst 1) := cf184_161.2.2.2.2.2.2.2.2.2.2.2.2.2.2.2
theorem cf184_188 : zf 184 188 = some (.isub) ∧ zf 184 189 = some (.invokestatic 117) ∧ zf 184 192 = some (.ifCond .eq 16) ∧ zf 184 195 = some (.aload_n 0) ∧ zf 184 196 = some (.aload_n 0) ∧ zf 184 197 = some (.getfield 13) ∧ zf 184 200 = some (.iload_n 2) ∧ zf 184 201 = some (.iaload) ∧ zf 184 202 = some (.invokevirtual 205) ∧ zf 184 205 = some (.goto 9) ∧ zf 184 208 = some (.aload_n 0) ∧ zf 184 209 = some (.bipush 12) ∧ zf 184 211 = some (.invokevirtual 209) ∧ zf 184 214 = some (.ireturn) ∧ zf 184 215 = some (.iload_n 2) ∧ zf 184 216 = some (.ifCond .lt 23) := by decide +kernel
theorem f184_188 : zf 184 188 = some (.isub) := cf184_188.1
theorem f184_189 : zf 184 189 = some (.invokestatic 117) := cf184_188.2.1
theorem f184_192 : zf 184 192 = some (.ifCond .eq 16) := cf184_188.2.2.1
theorem f184_195 : zf 184 195 = some (.aload_n 0) := cf184_188.2.2.2.1
theorem f184_196 : zf 184 196 = some (.aload_n 0) := cf184_188.2.2.2.2.1
theorem f184_197 : zf 184 197 = some (.getfield 13) := cf184_188.2.2.2.2.2.1
theorem f184_200 : zf 184 200 = some (.iload_n 2) := cf184_188.2.2.2.2.2.2.1
theorem f184_201 : zf 184 201 = some (.iaload) := cf184_188.2.2.2.2.2.2.2.1
theorem f184_202 : zf 184 202 = some (.invokevirtual 205) := cf184_188.2.2.2.2.2.2.2.2.1
theorem f184_205 : zf 184 205 = some (.goto 9) := cf184_188.2.2.2.2.2.2.2.2.2.1
theorem f184_208 : zf 184 208 = some (.aload_n 0) := cf184_188.2.2.2.2.2.2.2.2.2.2.1
theorem f184_209 : zf 184 209 = some (.bipush 12) := cf184_188.2.2.2.2.2.2.2.2.2.2.2.1
theorem f184_211 : zf 184 211 = some (.invokevirtual 209) := cf184_188.2.2.2.2.2.2.2.2.2.2.2.2.1
theorem f184_214 : zf 184 214 = some (.ireturn) := cf184_188.2.2.2.2.2.2.2.2.2.2.2.2.2.1
theorem f184_215 : zf 184 215 = some (.iload_n 2) := cf184_188.2.2.2.2.2.2.2.2.2.2.2.2.2.2.1
theorem f184_216 : zf 184 216 = some (.ifCond .lt 23) := cf184_188.2.2.2.2.2.2.2.2.2.2.2.2.2.2.2
theorem cf184_219 : zf 184 219 = some (.iload_n 3) ∧ zf 184 220 = some (.ifCond .lt 19) ∧ zf 184 223 = some (.iload_n 3) ∧ zf 184 224 = some (.iload_n 2) ∧ zf 184 225 = some (.iadd) ∧ zf 184 226 = some (.aload_n 0) ∧ zf 184 227 = some (.getfield 114) ∧ zf 184 230 = some (.if_icmp .gt 9) ∧ zf 184 233 = some (.iload_n 2) ∧ zf 184 234 = some (.bipush 6) ∧ zf 184 236 = some (.if_icmp .le 12) ∧ zf 184 239 = some (.aload_n 0) ∧ zf 184 240 = some (.bipush 12) ∧ zf 184 242 = some (.invokevirtual 209) ∧ zf 184 245 = some (.goto 13) ∧ zf 184 248 = some (.aload_n 0) := by decide +kernel
theorem f184_219 : zf 184 219 = some (.iload_n 3) := cf184_219.1
theorem f184_220 : zf 184 220 = some (.ifCond .lt 19) := cf184_219.2.1
theorem f184_223 : zf 184 223 = some (.iload_n 3) := cf184_219.2.2.1
theorem f184_224 : zf 184 224 = some (.iload_n 2) := cf184_219.2.2.2.1
theorem f184_225 : zf 184 225 = some (.iadd) := cf184_219.2.2.2.2.1
theorem f184_226 : zf 184 226 = some (.aload_n 0) := cf184_219.2.2.2.2.2.1
theorem f184_227 : zf 184 227 = some (.getfield 114) := cf184_219.2.2.2.2.2.2.1
theorem f184_230 : zf 184 230 = some (.if_icmp .gt 9) := cf184_219.2.2.2.2.2.2.2.1
theorem f184_233 : zf 184 233 = some (.iload_n 2) := cf184_219.2.2.2.2.2.2.2.2.1
theorem f184_234 : zf 184 234 = some (.bipush 6) := cf184_219.2.2.2.2.2.2.2.2.2.1
theorem f184_236 : zf 184 236 = some (.if_icmp .le 12) := cf184_219.2.2.2.2.2.2.2.2.2.2.1
theorem f184_239 : zf 184 239 = some (.aload_n 0) := cf184_219.2.2.2.2.2.2.2.2.2.2.2.1
theorem f184_240 : zf 184 240 = some (.bipush 12) := cf184_219.2.2.2.2.2.2.2.2.2.2.2.2.1
theorem f184_242 : zf 184 242 = some (.invokevirtual 209) := cf184_219.2.2.2.2.2.2.2.2.2.2.2.2.2.1
theorem f184_245 : zf 184 245 = some (.goto 13) := cf184_219.2.2.2.2.2.2.2.2.2.2.2.2.2.2.1
theorem f184_248 : zf 184 248 = some (.aload_n 0) := cf184_219.2.2.2.2.2.2.2.2.2.2.2.2.2.2.2
theorem cf184_249 : zf 184 249 = some (.aload_n 0) ∧ zf 184 250 = some (.iload_n 3) ∧ zf 184 251 = some (.iload_n 2) ∧ zf 184 252 = some (.invokevirtual 316) ∧ zf 184 255 = some (.invokevirtual 205) ∧ zf 184 258 = some (.ireturn) ∧ zf 184 259 = some (.aload_n 0) ∧ zf 184 260 = some (.iload 4) ∧ zf 184 262 = some (.invokevirtual 215) ∧ zf 184 265 = some (.ifCond .ne 11) ∧ zf 184 268 = some (.aload_n 0) ∧ zf 184 269 = some (.iconst 0) ∧ zf 184 270 = some (.invokevirtual 205) ∧ zf 184 273 = some (.goto 32) ∧ zf 184 276 = some (.aload_n 0) ∧ zf 184 277 = some (.iload 4) := by decide +kernel
theorem f184_249 : zf 184 249 = some (.aload_n 0) := cf184_249.1
theorem f184_250 : zf 184 250 = some (.iload_n 3) := cf184_249.2.1
theorem f184_251 : zf 184 251 = some (.iload_n 2) := cf184_249.2.2.1
theorem f184_252 : zf 184 252 = some (.invokevirtual 316) := cf184_249.2.2.2.1
theorem f184_255 : zf 184 255 = some (.invokevirtual 205) := cf184_249.2.2.2.2.1
theorem f184_258 : zf 184 258 = some (.ireturn) := cf184_249.2.2.2.2.2.1
theorem f184_259 : zf 184 259 = some (.aload_n 0) := cf184_249.2.2.2.2.2.2.1
theorem f184_260 : zf 184 260 = some (.iload 4) := cf184_249.2.2.2.2.2.2.2.1
theorem f184_262 : zf 184 262 = some (.invokevirtual 215) := cf184_249.2.2.2.2.2.2.2.2.1
theorem f184_265 : zf 184 265 = some (.ifCond .ne 11) := cf184_249.2.2.2.2.2.2.2.2.2.1
theorem f184_268 : zf 184 268 = some (.aload_n 0) := cf184_249.2.2.2.2.2.2.2.2.2.2.1
theorem f184_269 : zf 184 269 = some (.iconst 0) := cf184_249.2.2.2.2.2.2.2.2.2.2.2.1
theorem f184_270 : zf 184 270 = some (.invokevirtual 205) := cf184_249.2.2.2.2.2.2.2.2.2.2.2.2.1
theorem f184_273 : zf 184 273 = some (.goto 32) := cf184_249.2.2.2.2.2.2.2.2.2.2.2.2.2.1
theorem f184_276 : zf 184 276 = some (.aload_n 0) := cf184_249.2.2.2.2.2.2.2.2.2.2.2.2.2.2.1
theorem f184_277 : zf 184 277 = some (.iload 4) := cf184_249.2.2.2.2.2.2.2.2.2.2.2.2.2.2.2
theorem cf184_279 : zf 184 279 = some (.invokevirtual 158) ∧ zf 184 282 = some (.ifCond .eq 17) ∧ zf 184 285 = some (.aload_n 0) ∧ zf 184 286 = some (.aload_n 0) ∧ zf 184 287 = some (.getfield 13) ∧ zf 184 290 = some (.iload 4) ∧ zf 184 292 = some (.iaload) ∧ zf 184 293 = some (.invokevirtual 205) ∧ zf 184 296 = some (.goto 9) ∧ zf 184 299 = some (.aload_n 0) ∧ zf 184 300 = some (.bipush 14) ∧ zf 184 302 = some (.invokevirtual 209) ∧ zf 184 305 = some (.ireturn) ∧ zf 184 306 = some (.iload_n 2) ∧ zf 184 307 = some (.ifCond .ne 12) ∧ zf 184 310 = some (.aload_n 0) := by decide +kernel
theorem f184_279 : zf 184 279 = some (.invokevirtual 158) := cf184_279.1
theorem f184_282 : zf 184 282 = some (.ifCond .eq 17) := cf184_279.2.1
theorem f184_285 : zf 184 285 = some (.aload_n 0) := cf184_279.2.2.1
theorem f184_286 : zf 184 286 = some (.aload_n 0) := cf184_279.2.2.2.1
theorem f184_287 : zf 184 287 = some (.getfield 13) := cf184_279.2.2.2.2.1
theorem f184_290 : zf 184 290 = some (.iload 4) := cf184_279.2.2.2.2.2.1
theorem f184_292 : zf 184 292 = some (.iaload) := cf184_279.2.2.2.2.2.2.1
theorem f184_293 : zf 184 293 = some (.invokevirtual 205) := cf184_279.2.2.2.2.2.2.2.1
theorem f184_296 : zf 184 296 = some (.goto 9) := cf184_279.2.2.2.2.2.2.2.2.1
theorem f184_299 : zf 184 299 = some (.aload_n 0) := cf184_279.2.2.2.2.2.2.2.2.2.1
theorem f184_300 : zf 184 300 = some (.bipush 14) := cf184_279.2.2.2.2.2.2.2.2.2.2.1
theorem f184_302 : zf 184 302 = some (.invokevirtual 209) := cf184_279.2.2.2.2.2.2.2.2.2.2.2.1
theorem f184_305 : zf 184 305 = some (.ireturn) := cf184_279.2.2.2.2.2.2.2.2.2.2.2.2.1
theorem f184_306 : zf 184 306 = some (.iload_n 2) := cf184_279.2.2.2.2.2.2.2.2.2.2.2.2.2.1
theorem f184_307 : zf 184 307 = some (.ifCond .ne 12) := cf184_279.2.2.2.2.2.2.2.2.2.2.2.2.2.2.1
theorem f184_310 : zf 184 310 = some (.aload_n 0) := cf184_279.2.2.2.2.2.2.2.2.2.2.2.2.2.2.2
theorem cf184_311 : zf 184 311 = some (.bipush 15) ∧ zf 184 313 = some (.invokevirtual 209) ∧ zf 184 316 = some (.goto 12) ∧ zf 184 319 = some (.aload_n 0) ∧ zf 184 320 = some (.sipush 1000) ∧ zf 184 323 = some (.iload_n 2) ∧ zf 184 324 = some (.idiv) ∧ zf 184 325 = some (.invokevirtual 205) ∧ zf 184 328 = some (.ireturn) ∧ zf 184 329 = some (.iload_n 2) ∧ zf 184 330 = some (.iconst 1) ∧ zf 184 331 = some (.iand) ∧ zf 184 332 = some (.ifCond .ne 12) ∧ zf 184 335 = some (.aload_n 0) ∧ zf 184 336 = some (.bipush 10) ∧ zf 184 338 = some (.invokevirtual 209) := by decide +kernel
theorem f184_311 : zf 184 311 = some (.bipush 15) := cf184_311.1
theorem f184_313 : zf 184 313 = some (.invokevirtual 209) := cf184_311.2.1
theorem f184_316 : zf 184 316 = some (.goto 12) := cf184_311.2.2.1
theorem f184_319 : zf 184 319 = some (.aload_n 0) := cf184_311.2.2.2.1
theorem f184_320 : zf 184 320 = some (.sipush 1000) := cf184_311.2.2.2.2.1
theorem f184_323 : zf 184 323 = some (.iload_n 2) := cf184_311.2.2.2.2.2.1
theorem f184_324 : zf 184 324 = some (.idiv) := cf184_311.2.2.2.2.2.2.1
theorem f184_325 : zf 184 325 = some (.invokevirtual 205) := cf184_311.2.2.2.2.2.2.2.1
theorem f184_328 : zf 184 328 = some (.ireturn) := cf184_311.2.2.2.2.2.2.2.2.1
theorem f184_329 : zf 184 329 = some (.iload_n 2) := cf184_311.2.2.2.2.2.2.2.2.2.1
theorem f184_330 : zf 184 330 = some (.iconst 1) := cf184_311.2.2.2.2.2.2.2.2.2.2.1
theorem f184_331 : zf 184 331 = some (.iand) := cf184_311.2.2.2.2.2.2.2.2.2.2.2.1
theorem f184_332 : zf 184 332 = some (.ifCond .ne 12) := cf184_311.2.2.2.2.2.2.2.2.2.2.2.2.1
theorem f184_335 : zf 184 335 = some (.aload_n 0) := cf184_311.2.2.2.2.2.2.2.2.2.2.2.2.2.1
theorem f184_336 : zf 184 336 = some (.bipush 10) := cf184_311.2.2.2.2.2.2.2.2.2.2.2.2.2.2.1
theorem f184_338 : zf 184 338 = some (.invokevirtual 209) := cf184_311.2.2.2.2.2.2.2.2.2.2.2.2.2.2.2
theorem cf184_341 : zf 184 341 = some (.goto 8) ∧ zf 184 344 = some (.aload_n 0) ∧ zf 184 345 = some (.iconst 1) ∧ zf 184 346 = some (.invokevirtual 205) ∧ zf 184 349 = some (.ireturn) := by decide +kernel
theorem f184_341 : zf 184 341 = some (.goto 8) := cf184_341.1
theorem f184_344 : zf 184 344 = some (.aload_n 0) := cf184_341.2.1
theorem f184_345 : zf 184 345 = some (.iconst 1) := cf184_341.2.2.1
theorem f184_346 : zf 184 346 = some (.invokevirtual 205) := cf184_341.2.2.2.1
theorem f184_349 : zf 184 349 = some (.ireturn) := cf184_341.2.2.2.2
theorem cf185_0 : zf 185 0 = some (.aload_n 0) ∧ zf 185 1 = some (.getfield 111) ∧ zf 185 4 = some (.ireturn) := by decide +kernel
theorem f185_0 : zf 185 0 = some (.aload_n 0) := cf185_0.1
theorem f185_1 : zf 185 1 = some (.getfield 111) := cf185_0.2.1
theorem f185_4 : zf 185 4 = some (.ireturn) := cf185_0.2.2
theorem cf186_0 : zf 186 0 = some (.iload_n 0) ∧ zf 186 1 = some (.iload_n 1) ∧ zf 186 2 = some (.irem) ∧ zf 186 3 = some (.istore_n 2) ∧ zf 186 4 = some (.iload_n 0) ∧ zf 186 5 = some (.iload_n 1) ∧ zf 186 6 = some (.ixor) ∧ zf 186 7 = some (.ifCond .ge 11) ∧ zf 186 10 = some (.iload_n 2) ∧ zf 186 11 = some (.ifCond .eq 7) ∧ zf 186 14 = some (.iload_n 2) ∧ zf 186 15 = some (.iload_n 1) ∧ zf 186 16 = some (.iadd) ∧ zf 186 17 = some (.ireturn) ∧ zf 186 18 = some (.iload_n 2) ∧ zf 186 19 = some (.ireturn) := by decide +kernel
theorem f186_0 : zf 186 0 = some (.iload_n 0) := cf186_0.1
theorem f186_1 : zf 186 1 = some (.iload_n 1) := cf186_0.2.1
theorem f186_2 : zf 186 2 = some (.irem) := cf186_0.2.2.1
theorem f186_3 : zf 186 3 = some (.istore_n 2) := cf186_0.2.2.2.1
theorem f186_4 : zf 186 4 = some (.iload_n 0) := cf186_0.2.2.2.2.1
theorem f186_5 : zf 186 5 = some (.iload_n 1) := cf186_0.2.2.2.2.2.1
theorem f186_6 : zf 186 6 = some (.ixor) := cf186_0.2.2.2.2.2.2.1
theorem f186_7 : zf 186 7 = some (.ifCond .ge 11) := cf186_0.2.2.2.2.2.2.2.1
theorem f186_10 : zf 186 10 = some (.iload_n 2) := cf186_0.2.2.2.2.2.2.2.2.1
theorem f186_11 : zf 186 11 = some (.ifCond .eq 7) := cf186_0.2.2.2.2.2.2.2.2.2.1
theorem f186_14 : zf 186 14 = some (.iload_n 2) := cf186_0.2.2.2.2.2.2.2.2.2.2.1
theorem f186_15 : zf 186 15 = some (.iload_n 1) := cf186_0.2.2.2.2.2.2.2.2.2.2.2.1
theorem f186_16 : zf 186 16 = some (.iadd) := cf186_0.2.2.2.2.2.2.2.2.2.2.2.2.1
theorem f186_17 : zf 186 17 = some (.ireturn) := cf186_0.2.2.2.2.2.2.2.2.2.2.2.2.2.1
theorem f186_18 : zf 186 18 = some (.iload_n 2) := cf186_0.2.2.2.2.2.2.2.2.2.2.2.2.2.2.1
theorem f186_19 : zf 186 19 = some (.ireturn) := cf186_0.2.2.2.2.2.2.2.2.2.2.2.2.2.2.2
theorem cf187_0 : zf 187 0 = some (.iload_n 0) ∧ zf 187 1 = some (.iload_n 1) ∧ zf 187 2 = some (.if_icmp .gt 7) ∧ zf 187 5 = some (.iload_n 0) ∧ zf 187 6 = some (.goto 4) ∧ zf 187 9 = some (.iload_n 1) ∧ zf 187 10 = some (.ireturn) := by decide +kernel
theorem f187_0 : zf 187 0 = some (.iload_n 0) := cf187_0.1
theorem f187_1 : zf 187 1 = some (.iload_n 1) := cf187_0.2.1
theorem f187_2 : zf 187 2 = some (.if_icmp .gt 7) := cf187_0.2.2.1
theorem f187_5 : zf 187 5 = some (.iload_n 0) := cf187_0.2.2.2.1
theorem f187_6 : zf 187 6 = some (.goto 4) := cf187_0.2.2.2.2.1
theorem f187_9 : zf 187 9 = some (.iload_n 1) := cf187_0.2.2.2.2.2.1
theorem f187_10 : zf 187 10 = some (.ireturn) := cf187_0.2.2.2.2.2.2
theorem cf188_0 : zf 188 0 = some (.lload_n 0) ∧ zf 188 1 = some (.lload_n 2) ∧ zf 188 2 = some (.lcmp) ∧ zf 188 3 = some (.ifCond .gt 7) ∧ zf 188 6 = some (.lload_n 0) ∧ zf 188 7 = some (.goto 4) ∧ zf 188 10 = some (.lload_n 2) ∧ zf 188 11 = some (.lreturn) := by decide +kernel
theorem f188_0 : zf 188 0 = some (.lload_n 0) := cf188_0.1
theorem f188_1 : zf 188 1 = some (.lload_n 2) := cf188_0.2.1
theorem f188_2 : zf 188 2 = some (.lcmp) := cf188_0.2.2.1
theorem f188_3 : zf 188 3 = some (.ifCond .gt 7) := cf188_0.2.2.2.1
theorem f188_6 : zf 188 6 = some (.lload_n 0) := cf188_0.2.2.2.2.1
theorem f188_7 : zf 188 7 = some (.goto 4) := cf188_0.2.2.2.2.2.1
theorem f188_10 : zf 188 10 = some (.lload_n 2) := cf188_0.2.2.2.2.2.2.1
theorem f188_11 : zf 188 11 = some (.lreturn) := cf188_0.2.2.2.2.2.2.2
