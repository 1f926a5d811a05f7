theorem cf141_0 : zf 141 0 = some (.iload_n 1) ∧ zf 141 1 = some (.iconst 0) ∧ zf 141 2 = some (.iconst 4) ∧ zf 141 3 = some (.invokestatic 117) ∧ zf 141 6 = some (.ifCond .eq 14) ∧ zf 141 9 = some (.iload_n 2) ∧ zf 141 10 = some (.iconst 1) ∧ zf 141 11 = some (.sipush 200) ∧ zf 141 14 = some (.invokestatic 117) ∧ zf 141 17 = some (.ifCond .ne 9) ∧ zf 141 20 = some (.aload_n 0) ∧ zf 141 21 = some (.iconst 1) ∧ zf 141 22 = some (.invokevirtual 209) ∧ zf 141 25 = some (.ireturn) ∧ zf 141 26 = some (.aload_n 0) ∧ zf 141 27 = some (.getfield 114) := by decide +kernel
theorem f141_0 : zf 141 0 = some (.iload_n 1) := cf141_0.1
theorem f141_1 : zf 141 1 = some (.iconst 0) := cf141_0.2.1
theorem f141_2 : zf 141 2 = some (.iconst 4) := cf141_0.2.2.1
theorem f141_3 : zf 141 3 = some (.invokestatic 117) := cf141_0.2.2.2.1
theorem f141_6 : zf 141 6 = some (.ifCond .eq 14) := cf141_0.2.2.2.2.1
theorem f141_9 : zf 141 9 = some (.iload_n 2) := cf141_0.2.2.2.2.2.1
theorem f141_10 : zf 141 10 = some (.iconst 1) := cf141_0.2.2.2.2.2.2.1
theorem f141_11 : zf 141 11 = some (.sipush 200) := cf141_0.2.2.2.2.2.2.2.1
theorem f141_14 : zf 141 14 = some (.invokestatic 117) := cf141_0.2.2.2.2.2.2.2.2.1
theorem f141_17 : zf 141 17 = some (.ifCond .ne 9) := cf141_0.2.2.2.2.2.2.2.2.2.1
theorem f141_20 : zf 141 20 = some (.aload_n 0) := cf141_0.2.2.2.2.2.2.2.2.2.2.1
theorem f141_21 : zf 141 21 = some (.iconst 1) := cf141_0.2.2.2.2.2.2.2.2.2.2.2.1
theorem f141_22 : zf 141 22 = some (.invokevirtual 209) := cf141_0.2.2.2.2.2.2.2.2.2.2.2.2.1
theorem f141_25 : zf 141 25 = some (.ireturn) := cf141_0.2.2.2.2.2.2.2.2.2.2.2.2.2.1
theorem f141_26 : zf 141 26 = some (.aload_n 0) := cf141_0.2.2.2.2.2.2.2.2.2.2.2.2.2.2.1
theorem f141_27 : zf 141 27 = some (.getfield 114) := cf141_0.2.2.2.2.2.2.2.2.2.2.2.2.2.2.2
theorem cf141_30 : zf 141 30 = some (.bipush 8) ∧ zf 141 32 = some (.if_icmp .ne 9) ∧ zf 141 35 = some (.aload_n 0) ∧ zf 141 36 = some (.iconst 2) ∧ zf 141 37 = some (.invokevirtual 209) ∧ zf 141 40 = some (.ireturn) ∧ zf 141 41 = some (.aload_n 0) ∧ zf 141 42 = some (.getfield 114) ∧ zf 141 45 = some (.istore_n 3) ∧ zf 141 46 = some (.aload_n 0) ∧ zf 141 47 = some (.dup) ∧ zf 141 48 = some (.getfield 114) ∧ zf 141 51 = some (.iconst 1) ∧ zf 141 52 = some (.iadd) ∧ zf 141 53 = some (.putfield 114) ∧ zf 141 56 = some (.aload_n 0) := by decide +kernel
theorem f141_30 : zf 141 30 = some (.bipush 8) := cf141_30.1
theorem f141_32 : zf 141 32 = some (.if_icmp .ne 9) := cf141_30.2.1
theorem f141_35 : zf 141 35 = some (.aload_n 0) := cf141_30.2.2.1
theorem f141_36 : zf 141 36 = some (.iconst 2) := cf141_30.2.2.2.1
theorem f141_37 : zf 141 37 = some (.invokevirtual 209) := cf141_30.2.2.2.2.1
theorem f141_40 : zf 141 40 = some (.ireturn) := cf141_30.2.2.2.2.2.1
theorem f141_41 : zf 141 41 = some (.aload_n 0) := cf141_30.2.2.2.2.2.2.1
theorem f141_42 : zf 141 42 = some (.getfield 114) := cf141_30.2.2.2.2.2.2.2.1
theorem f141_45 : zf 141 45 = some (.istore_n 3) := cf141_30.2.2.2.2.2.2.2.2.1
theorem f141_46 : zf 141 46 = some (.aload_n 0) := cf141_30.2.2.2.2.2.2.2.2.2.1
theorem f141_47 : zf 141 47 = some (.dup) := cf141_30.2.2.2.2.2.2.2.2.2.2.1
theorem f141_48 : zf 141 48 = some (.getfield 114) := cf141_30.2.2.2.2.2.2.2.2.2.2.2.1
theorem f141_51 : zf 141 51 = some (.iconst 1) := cf141_30.2.2.2.2.2.2.2.2.2.2.2.2.1
theorem f141_52 : zf 141 52 = some (.iadd) := cf141_30.2.2.2.2.2.2.2.2.2.2.2.2.2.1
theorem f141_53 : zf 141 53 = some (.putfield 114) := cf141_30.2.2.2.2.2.2.2.2.2.2.2.2.2.2.1
theorem f141_56 : zf 141 56 = some (.aload_n 0) := cf141_30.2.2.2.2.2.2.2.2.2.2.2.2.2.2.2
theorem cf141_57 : zf 141 57 = some (.getfield 7) ∧ zf 141 60 = some (.iload_n 3) ∧ zf 141 61 = some (.iload_n 1) ∧ zf 141 62 = some (.iastore) ∧ zf 141 63 = some (.aload_n 0) ∧ zf 141 64 = some (.getfield 13) ∧ zf 141 67 = some (.iload_n 3) ∧ zf 141 68 = some (.iload_n 2) ∧ zf 141 69 = some (.iastore) ∧ zf 141 70 = some (.aload_n 0) ∧ zf 141 71 = some (.getfield 16) ∧ zf 141 74 = some (.iload_n 3) ∧ zf 141 75 = some (.iload_n 1) ∧ zf 141 76 = some (.ifCond .eq 8) ∧ zf 141 79 = some (.iload_n 1) ∧ zf 141 80 = some (.iconst 2) := by decide +kernel
theorem f141_57 : zf 141 57 = some (.getfield 7) := cf141_57.1
theorem f141_60 : zf 141 60 = some (.iload_n 3) := cf141_57.2.1
theorem f141_61 : zf 141 61 = some (.iload_n 1) := cf141_57.2.2.1
theorem f141_62 : zf 141 62 = some (.iastore) := cf141_57.2.2.2.1
theorem f141_63 : zf 141 63 = some (.aload_n 0) := cf141_57.2.2.2.2.1
theorem f141_64 : zf 141 64 = some (.getfield 13) := cf141_57.2.2.2.2.2.1
theorem f141_67 : zf 141 67 = some (.iload_n 3) := cf141_57.2.2.2.2.2.2.1
theorem f141_68 : zf 141 68 = some (.iload_n 2) := cf141_57.2.2.2.2.2.2.2.1
theorem f141_69 : zf 141 69 = some (.iastore) := cf141_57.2.2.2.2.2.2.2.2.1
theorem f141_70 : zf 141 70 = some (.aload_n 0) := cf141_57.2.2.2.2.2.2.2.2.2.1
theorem f141_71 : zf 141 71 = some (.getfield 16) := cf141_57.2.2.2.2.2.2.2.2.2.2.1
theorem f141_74 : zf 141 74 = some (.iload_n 3) := cf141_57.2.2.2.2.2.2.2.2.2.2.2.1
theorem f141_75 : zf 141 75 = some (.iload_n 1) := cf141_57.2.2.2.2.2.2.2.2.2.2.2.2.1
theorem f141_76 : zf 141 76 = some (.ifCond .eq 8) := cf141_57.2.2.2.2.2.2.2.2.2.2.2.2.2.1
theorem f141_79 : zf 141 79 = some (.iload_n 1) := cf141_57.2.2.2.2.2.2.2.2.2.2.2.2.2.2.1
theorem f141_80 : zf 141 80 = some (.iconst 2) := cf141_57.2.2.2.2.2.2.2.2.2.2.2.2.2.2.2
theorem cf141_81 : zf 141 81 = some (.if_icmp .ne 7) ∧ zf 141 84 = some (.iconst 0) ∧ zf 141 85 = some (.goto 4) ∧ zf 141 88 = some (.iload_n 2) ∧ zf 141 89 = some (.iastore) ∧ zf 141 90 = some (.aload_n 0) ∧ zf 141 91 = some (.getfield 19) ∧ zf 141 94 = some (.iload_n 3) ∧ zf 141 95 = some (.iconst 0) ∧ zf 141 96 = some (.iastore) ∧ zf 141 97 = some (.aload_n 0) ∧ zf 141 98 = some (.getfield 22) ∧ zf 141 101 = some (.iload_n 3) ∧ zf 141 102 = some (.iconst (-1)) ∧ zf 141 103 = some (.iastore) ∧ zf 141 104 = some (.aload_n 0) := by decide +kernel
theorem f141_81 : zf 141 81 = some (.if_icmp .ne 7) := cf141_81.1
theorem f141_84 : zf 141 84 = some (.iconst 0) := cf141_81.2.1
theorem f141_85 : zf 141 85 = some (.goto 4) := cf141_81.2.2.1
theorem f141_88 : zf 141 88 = some (.iload_n 2) := cf141_81.2.2.2.1
theorem f141_89 : zf 141 89 = some (.iastore) := cf141_81.2.2.2.2.1
theorem f141_90 : zf 141 90 = some (.aload_n 0) := cf141_81.2.2.2.2.2.1
theorem f141_91 : zf 141 91 = some (.getfield 19) := cf141_81.2.2.2.2.2.2.1
theorem f141_94 : zf 141 94 = some (.iload_n 3) := cf141_81.2.2.2.2.2.2.2.1
theorem f141_95 : zf 141 95 = some (.iconst 0) := cf141_81.2.2.2.2.2.2.2.2.1
theorem f141_96 : zf 141 96 = some (.iastore) := cf141_81.2.2.2.2.2.2.2.2.2.1
theorem f141_97 : zf 141 97 = some (.aload_n 0) := cf141_81.2.2.2.2.2.2.2.2.2.2.1
theorem f141_98 : zf 141 98 = some (.getfield 22) := cf141_81.2.2.2.2.2.2.2.2.2.2.2.1
theorem f141_101 : zf 141 101 = some (.iload_n 3) := cf141_81.2.2.2.2.2.2.2.2.2.2.2.2.1
theorem f141_102 : zf 141 102 = some (.iconst (-1)) := cf141_81.2.2.2.2.2.2.2.2.2.2.2.2.2.1
theorem f141_103 : zf 141 103 = some (.iastore) := cf141_81.2.2.2.2.2.2.2.2.2.2.2.2.2.2.1
theorem f141_104 : zf 141 104 = some (.aload_n 0) := cf141_81.2.2.2.2.2.2.2.2.2.2.2.2.2.2.2
theorem cf141_105 : zf 141 105 = some (.getfield 25) ∧ zf 141 108 = some (.iload_n 3) ∧ zf 141 109 = some (.iconst (-1)) ∧ zf 141 110 = some (.iastore) ∧ zf 141 111 = some (.aload_n 0) ∧ zf 141 112 = some (.getfield 28) ∧ zf 141 115 = some (.iload_n 3) ∧ zf 141 116 = some (.iconst (-1)) ∧ zf 141 117 = some (.iastore) ∧ zf 141 118 = some (.aload_n 0) ∧ zf 141 119 = some (.iload_n 3) ∧ zf 141 120 = some (.invokevirtual 212) ∧ zf 141 123 = some (.ireturn) := by decide +kernel
theorem f141_105 : zf 141 105 = some (.getfield 25) := cf141_105.1
theorem f141_108 : zf 141 108 = some (.iload_n 3) := cf141_105.2.1
theorem f141_109 : zf 141 109 = some (.iconst (-1)) := cf141_105.2.2.1
theorem f141_110 : zf 141 110 = some (.iastore) := cf141_105.2.2.2.1
theorem f141_111 : zf 141 111 = some (.aload_n 0) := cf141_105.2.2.2.2.1
theorem f141_112 : zf 141 112 = some (.getfield 28) := cf141_105.2.2.2.2.2.1
theorem f141_115 : zf 141 115 = some (.iload_n 3) := cf141_105.2.2.2.2.2.2.1
theorem f141_116 : zf 141 116 = some (.iconst (-1)) := cf141_105.2.2.2.2.2.2.2.1
theorem f141_117 : zf 141 117 = some (.iastore) := cf141_105.2.2.2.2.2.2.2.2.1
theorem f141_118 : zf 141 118 = some (.aload_n 0) := cf141_105.2.2.2.2.2.2.2.2.2.1
theorem f141_119 : zf 141 119 = some (.iload_n 3) := cf141_105.2.2.2.2.2.2.2.2.2.2.1
theorem f141_120 : zf 141 120 = some (.invokevirtual 212) := cf141_105.2.2.2.2.2.2.2.2.2.2.2.1
theorem f141_123 : zf 141 123 = some (.ireturn) := cf141_105.2.2.2.2.2.2.2.2.2.2.2.2
theorem cf142_0 : zf 142 0 = some (.aload_n 0) ∧ zf 142 1 = some (.iload_n 1) ∧ zf 142 2 = some (.invokevirtual 215) ∧ zf 142 5 = some (.ifCond .ne 9) ∧ zf 142 8 = some (.aload_n 0) ∧ zf 142 9 = some (.iconst 1) ∧ zf 142 10 = some (.invokevirtual 209) ∧ zf 142 13 = some (.ireturn) ∧ zf 142 14 = some (.aload_n 0) ∧ zf 142 15 = some (.getfield 7) ∧ zf 142 18 = some (.iload_n 1) ∧ zf 142 19 = some (.iaload) ∧ zf 142 20 = some (.ifCond .eq 13) ∧ zf 142 23 = some (.aload_n 0) ∧ zf 142 24 = some (.getfield 7) ∧ zf 142 27 = some (.iload_n 1) := by decide +kernel
theorem f142_0 : zf 142 0 = some (.aload_n 0) := cf142_0.1
theorem f142_1 : zf 142 1 = some (.iload_n 1) := cf142_0.2.1
theorem f142_2 : zf 142 2 = some (.invokevirtual 215) := cf142_0.2.2.1
theorem f142_5 : zf 142 5 = some (.ifCond .ne 9) := cf142_0.2.2.2.1
theorem f142_8 : zf 142 8 = some (.aload_n 0) := cf142_0.2.2.2.2.1
theorem f142_9 : zf 142 9 = some (.iconst 1) := cf142_0.2.2.2.2.2.1
theorem f142_10 : zf 142 10 = some (.invokevirtual 209) := cf142_0.2.2.2.2.2.2.1
theorem f142_13 : zf 142 13 = some (.ireturn) := cf142_0.2.2.2.2.2.2.2.1
theorem f142_14 : zf 142 14 = some (.aload_n 0) := cf142_0.2.2.2.2.2.2.2.2.1
theorem f142_15 : zf 142 15 = some (.getfield 7) := cf142_0.2.2.2.2.2.2.2.2.2.1
theorem f142_18 : zf 142 18 = some (.iload_n 1) := cf142_0.2.2.2.2.2.2.2.2.2.2.1
theorem f142_19 : zf 142 19 = some (.iaload) := cf142_0.2.2.2.2.2.2.2.2.2.2.2.1
theorem f142_20 : zf 142 20 = some (.ifCond .eq 13) := cf142_0.2.2.2.2.2.2.2.2.2.2.2.2.1
theorem f142_23 : zf 142 23 = some (.aload_n 0) := cf142_0.2.2.2.2.2.2.2.2.2.2.2.2.2.1
theorem f142_24 : zf 142 24 = some (.getfield 7) := cf142_0.2.2.2.2.2.2.2.2.2.2.2.2.2.2.1
theorem f142_27 : zf 142 27 = some (.iload_n 1) := cf142_0.2.2.2.2.2.2.2.2.2.2.2.2.2.2.2
theorem cf142_28 : zf 142 28 = some (.iaload) ∧ zf 142 29 = some (.iconst 2) ∧ zf 142 30 = some (.if_icmp .ne 9) ∧ zf 142 33 = some (.aload_n 0) ∧ zf 142 34 = some (.iconst 3) ∧ zf 142 35 = some (.invokevirtual 209) ∧ zf 142 38 = some (.ireturn) ∧ zf 142 39 = some (.iload_n 2) ∧ zf 142 40 = some (.iconst 1) ∧ zf 142 41 = some (.aload_n 0) ∧ zf 142 42 = some (.getfield 13) ∧ zf 142 45 = some (.iload_n 1) ∧ zf 142 46 = some (.iaload) ∧ zf 142 47 = some (.invokestatic 117) ∧ zf 142 50 = some (.ifCond .eq 24) ∧ zf 142 53 = some (.aload_n 0) := by decide +kernel
theorem f142_28 : zf 142 28 = some (.iaload) := cf142_28.1
theorem f142_29 : zf 142 29 = some (.iconst 2) := cf142_28.2.1
theorem f142_30 : zf 142 30 = some (.if_icmp .ne 9) := cf142_28.2.2.1
theorem f142_33 : zf 142 33 = some (.aload_n 0) := cf142_28.2.2.2.1
theorem f142_34 : zf 142 34 = some (.iconst 3) := cf142_28.2.2.2.2.1
theorem f142_35 : zf 142 35 = some (.invokevirtual 209) := cf142_28.2.2.2.2.2.1
theorem f142_38 : zf 142 38 = some (.ireturn) := cf142_28.2.2.2.2.2.2.1
theorem f142_39 : zf 142 39 = some (.iload_n 2) := cf142_28.2.2.2.2.2.2.2.1
theorem f142_40 : zf 142 40 = some (.iconst 1) := cf142_28.2.2.2.2.2.2.2.2.1
theorem f142_41 : zf 142 41 = some (.aload_n 0) := cf142_28.2.2.2.2.2.2.2.2.2.1
theorem f142_42 : zf 142 42 = some (.getfield 13) := cf142_28.2.2.2.2.2.2.2.2.2.2.1
theorem f142_45 : zf 142 45 = some (.iload_n 1) := cf142_28.2.2.2.2.2.2.2.2.2.2.2.1
theorem f142_46 : zf 142 46 = some (.iaload) := cf142_28.2.2.2.2.2.2.2.2.2.2.2.2.1
theorem f142_47 : zf 142 47 = some (.invokestatic 117) := cf142_28.2.2.2.2.2.2.2.2.2.2.2.2.2.1
theorem f142_50 : zf 142 50 = some (.ifCond .eq 24) := cf142_28.2.2.2.2.2.2.2.2.2.2.2.2.2.2.1
theorem f142_53 : zf 142 53 = some (.aload_n 0) := cf142_28.2.2.2.2.2.2.2.2.2.2.2.2.2.2.2
theorem cf142_54 : zf 142 54 = some (.getfield 7) ∧ zf 142 57 = some (.iload_n 1) ∧ zf 142 58 = some (.iaload) ∧ zf 142 59 = some (.iconst 1) ∧ zf 142 60 = some (.if_icmp .eq 20) ∧ zf 142 63 = some (.iload_n 3) ∧ zf 142 64 = some (.iconst 0) ∧ zf 142 65 = some (.iload_n 2) ∧ zf 142 66 = some (.iconst 1) ∧ zf 142 67 = some (.isub) ∧ zf 142 68 = some (.invokestatic 117) ∧ zf 142 71 = some (.ifCond .ne 9) ∧ zf 142 74 = some (.aload_n 0) ∧ zf 142 75 = some (.iconst 1) ∧ zf 142 76 = some (.invokevirtual 209) ∧ zf 142 79 = some (.ireturn) := by decide +kernel
theorem f142_54 : zf 142 54 = some (.getfield 7) := cf142_54.1
theorem f142_57 : zf 142 57 = some (.iload_n 1) := cf142_54.2.1
theorem f142_58 : zf 142 58 = some (.iaload) := cf142_54.2.2.1
theorem f142_59 : zf 142 59 = some (.iconst 1) := cf142_54.2.2.2.1
theorem f142_60 : zf 142 60 = some (.if_icmp .eq 20) := cf142_54.2.2.2.2.1
theorem f142_63 : zf 142 63 = some (.iload_n 3) := cf142_54.2.2.2.2.2.1
theorem f142_64 : zf 142 64 = some (.iconst 0) := cf142_54.2.2.2.2.2.2.1
theorem f142_65 : zf 142 65 = some (.iload_n 2) := cf142_54.2.2.2.2.2.2.2.1
theorem f142_66 : zf 142 66 = some (.iconst 1) := cf142_54.2.2.2.2.2.2.2.2.1
theorem f142_67 : zf 142 67 = some (.isub) := cf142_54.2.2.2.2.2.2.2.2.2.1
theorem f142_68 : zf 142 68 = some (.invokestatic 117) := cf142_54.2.2.2.2.2.2.2.2.2.2.1
theorem f142_71 : zf 142 71 = some (.ifCond .ne 9) := cf142_54.2.2.2.2.2.2.2.2.2.2.2.1
theorem f142_74 : zf 142 74 = some (.aload_n 0) := cf142_54.2.2.2.2.2.2.2.2.2.2.2.2.1
theorem f142_75 : zf 142 75 = some (.iconst 1) := cf142_54.2.2.2.2.2.2.2.2.2.2.2.2.2.1
theorem f142_76 : zf 142 76 = some (.invokevirtual 209) := cf142_54.2.2.2.2.2.2.2.2.2.2.2.2.2.2.1
theorem f142_79 : zf 142 79 = some (.ireturn) := cf142_54.2.2.2.2.2.2.2.2.2.2.2.2.2.2.2
theorem cf142_80 : zf 142 80 = some (.aload_n 0) ∧ zf 142 81 = some (.getfield 16) ∧ zf 142 84 = some (.iload_n 1) ∧ zf 142 85 = some (.iload_n 2) ∧ zf 142 86 = some (.iastore) ∧ zf 142 87 = some (.aload_n 0) ∧ zf 142 88 = some (.getfield 19) ∧ zf 142 91 = some (.iload_n 1) ∧ zf 142 92 = some (.aload_n 0) ∧ zf 142 93 = some (.getfield 7) ∧ zf 142 96 = some (.iload_n 1) ∧ zf 142 97 = some (.iaload) ∧ zf 142 98 = some (.iconst 1) ∧ zf 142 99 = some (.if_icmp .ne 7) ∧ zf 142 102 = some (.iconst 0) ∧ zf 142 103 = some (.goto 4) := by decide +kernel
theorem f142_80 : zf 142 80 = some (.aload_n 0) := cf142_80.1
theorem f142_81 : zf 142 81 = some (.getfield 16) := cf142_80.2.1
theorem f142_84 : zf 142 84 = some (.iload_n 1) := cf142_80.2.2.1
theorem f142_85 : zf 142 85 = some (.iload_n 2) := cf142_80.2.2.2.1
theorem f142_86 : zf 142 86 = some (.iastore) := cf142_80.2.2.2.2.1
theorem f142_87 : zf 142 87 = some (.aload_n 0) := cf142_80.2.2.2.2.2.1
theorem f142_88 : zf 142 88 = some (.getfield 19) := cf142_80.2.2.2.2.2.2.1
theorem f142_91 : zf 142 91 = some (.iload_n 1) := cf142_80.2.2.2.2.2.2.2.1
theorem f142_92 : zf 142 92 = some (.aload_n 0) := cf142_80.2.2.2.2.2.2.2.2.1
theorem f142_93 : zf 142 93 = some (.getfield 7) := cf142_80.2.2.2.2.2.2.2.2.2.1
theorem f142_96 : zf 142 96 = some (.iload_n 1) := cf142_80.2.2.2.2.2.2.2.2.2.2.1
theorem f142_97 : zf 142 97 = some (.iaload) := cf142_80.2.2.2.2.2.2.2.2.2.2.2.1
theorem f142_98 : zf 142 98 = some (.iconst 1) := cf142_80.2.2.2.2.2.2.2.2.2.2.2.2.1
theorem f142_99 : zf 142 99 = some (.if_icmp .ne 7) := cf142_80.2.2.2.2.2.2.2.2.2.2.2.2.2.1
theorem f142_102 : zf 142 102 = some (.iconst 0) := cf142_80.2.2.2.2.2.2.2.2.2.2.2.2.2.2.1
theorem f142_103 : zf 142 103 = some (.goto 4) := cf142_80.2.2.2.2.2.2.2.2.2.2.2.2.2.2.2
theorem cf142_106 : zf 142 106 = some (.iload_n 3) ∧ zf 142 107 = some (.iastore) ∧ zf 142 108 = some (.aload_n 0) ∧ zf 142 109 = some (.iconst 1) ∧ zf 142 110 = some (.invokevirtual 212) ∧ zf 142 113 = some (.ireturn) := by decide +kernel
theorem f142_106 : zf 142 106 = some (.iload_n 3) := cf142_106.1
theorem f142_107 : zf 142 107 = some (.iastore) := cf142_106.2.1
theorem f142_108 : zf 142 108 = some (.aload_n 0) := cf142_106.2.2.1
theorem f142_109 : zf 142 109 = some (.iconst 1) := cf142_106.2.2.2.1
theorem f142_110 : zf 142 110 = some (.invokevirtual 212) := cf142_106.2.2.2.2.1
theorem f142_113 : zf 142 113 = some (.ireturn) := cf142_106.2.2.2.2.2
theorem cf143_0 : zf 143 0 = some (.aload_n 0) ∧ zf 143 1 = some (.iload_n 1) ∧ zf 143 2 = some (.invokevirtual 215) ∧ zf 143 5 = some (.ifCond .eq 11) ∧ zf 143 8 = some (.aload_n 0) ∧ zf 143 9 = some (.iload_n 2) ∧ zf 143 10 = some (.invokevirtual 218) ∧ zf 143 13 = some (.ifCond .ne 9) ∧ zf 143 16 = some (.aload_n 0) ∧ zf 143 17 = some (.iconst 1) ∧ zf 143 18 = some (.invokevirtual 209) ∧ zf 143 21 = some (.ireturn) ∧ zf 143 22 = some (.aload_n 0) ∧ zf 143 23 = some (.getfield 7) ∧ zf 143 26 = some (.iload_n 1) ∧ zf 143 27 = some (.iaload) := by decide +kernel
theorem f143_0 : zf 143 0 = some (.aload_n 0) := cf143_0.1
theorem f143_1 : zf 143 1 = some (.iload_n 1) := cf143_0.2.1
theorem f143_2 : zf 143 2 = some (.invokevirtual 215) := cf143_0.2.2.1
theorem f143_5 : zf 143 5 = some (.ifCond .eq 11) := cf143_0.2.2.2.1
theorem f143_8 : zf 143 8 = some (.aload_n 0) := cf143_0.2.2.2.2.1
theorem f143_9 : zf 143 9 = some (.iload_n 2) := cf143_0.2.2.2.2.2.1
theorem f143_10 : zf 143 10 = some (.invokevirtual 218) := cf143_0.2.2.2.2.2.2.1
theorem f143_13 : zf 143 13 = some (.ifCond .ne 9) := cf143_0.2.2.2.2.2.2.2.1
theorem f143_16 : zf 143 16 = some (.aload_n 0) := cf143_0.2.2.2.2.2.2.2.2.1
theorem f143_17 : zf 143 17 = some (.iconst 1) := cf143_0.2.2.2.2.2.2.2.2.2.1
theorem f143_18 : zf 143 18 = some (.invokevirtual 209) := cf143_0.2.2.2.2.2.2.2.2.2.2.1
theorem f143_21 : zf 143 21 = some (.ireturn) := cf143_0.2.2.2.2.2.2.2.2.2.2.2.1
theorem f143_22 : zf 143 22 = some (.aload_n 0) := cf143_0.2.2.2.2.2.2.2.2.2.2.2.2.1
theorem f143_23 : zf 143 23 = some (.getfield 7) := cf143_0.2.2.2.2.2.2.2.2.2.2.2.2.2.1
theorem f143_26 : zf 143 26 = some (.iload_n 1) := cf143_0.2.2.2.2.2.2.2.2.2.2.2.2.2.2.1
theorem f143_27 : zf 143 27 = some (.iaload) := cf143_0.2.2.2.2.2.2.2.2.2.2.2.2.2.2.2
theorem cf143_28 : zf 143 28 = some (.ifCond .eq 33) ∧ zf 143 31 = some (.aload_n 0) ∧ zf 143 32 = some (.getfield 7) ∧ zf 143 35 = some (.iload_n 1) ∧ zf 143 36 = some (.iaload) ∧ zf 143 37 = some (.iconst 2) ∧ zf 143 38 = some (.if_icmp .eq 23) ∧ zf 143 41 = some (.aload_n 0) ∧ zf 143 42 = some (.getfield 7) ∧ zf 143 45 = some (.iload_n 1) ∧ zf 143 46 = some (.iaload) ∧ zf 143 47 = some (.iconst 1) ∧ zf 143 48 = some (.if_icmp .ne 19) ∧ zf 143 51 = some (.aload_n 0) ∧ zf 143 52 = some (.getfield 31) ∧ zf 143 55 = some (.iload_n 2) := by decide +kernel
theorem f143_28 : zf 143 28 = some (.ifCond .eq 33) := cf143_28.1
theorem f143_31 : zf 143 31 = some (.aload_n 0) := cf143_28.2.1
theorem f143_32 : zf 143 32 = some (.getfield 7) := cf143_28.2.2.1
theorem f143_35 : zf 143 35 = some (.iload_n 1) := cf143_28.2.2.2.1
theorem f143_36 : zf 143 36 = some (.iaload) := cf143_28.2.2.2.2.1
theorem f143_37 : zf 143 37 = some (.iconst 2) := cf143_28.2.2.2.2.2.1
theorem f143_38 : zf 143 38 = some (.if_icmp .eq 23) := cf143_28.2.2.2.2.2.2.1
theorem f143_41 : zf 143 41 = some (.aload_n 0) := cf143_28.2.2.2.2.2.2.2.1
theorem f143_42 : zf 143 42 = some (.getfield 7) := cf143_28.2.2.2.2.2.2.2.2.1
theorem f143_45 : zf 143 45 = some (.iload_n 1) := cf143_28.2.2.2.2.2.2.2.2.2.1
theorem f143_46 : zf 143 46 = some (.iaload) := cf143_28.2.2.2.2.2.2.2.2.2.2.1
theorem f143_47 : zf 143 47 = some (.iconst 1) := cf143_28.2.2.2.2.2.2.2.2.2.2.2.1
theorem f143_48 : zf 143 48 = some (.if_icmp .ne 19) := cf143_28.2.2.2.2.2.2.2.2.2.2.2.2.1
theorem f143_51 : zf 143 51 = some (.aload_n 0) := cf143_28.2.2.2.2.2.2.2.2.2.2.2.2.2.1
theorem f143_52 : zf 143 52 = some (.getfield 31) := cf143_28.2.2.2.2.2.2.2.2.2.2.2.2.2.2.1
theorem f143_55 : zf 143 55 = some (.iload_n 2) := cf143_28.2.2.2.2.2.2.2.2.2.2.2.2.2.2.2
theorem cf143_56 : zf 143 56 = some (.iaload) ∧ zf 143 57 = some (.iload_n 1) ∧ zf 143 58 = some (.if_icmp .eq 9) ∧ zf 143 61 = some (.aload_n 0) ∧ zf 143 62 = some (.iconst 3) ∧ zf 143 63 = some (.invokevirtual 209) ∧ zf 143 66 = some (.ireturn) ∧ zf 143 67 = some (.aload_n 0) ∧ zf 143 68 = some (.getfield 22) ∧ zf 143 71 = some (.iload_n 1) ∧ zf 143 72 = some (.iload_n 2) ∧ zf 143 73 = some (.iastore) ∧ zf 143 74 = some (.aload_n 0) ∧ zf 143 75 = some (.iconst 1) ∧ zf 143 76 = some (.invokevirtual 212) ∧ zf 143 79 = some (.ireturn) := by decide +kernel
theorem f143_56 : zf 143 56 = some (.iaload) := cf143_56.1
theorem f143_57 : zf 143 57 = some (.iload_n 1) := cf143_56.2.1
theorem f143_58 : zf 143 58 = some (.if_icmp .eq 9) := cf143_56.2.2.1
theorem f143_61 : zf 143 61 = some (.aload_n 0) := cf143_56.2.2.2.1
theorem f143_62 : zf 143 62 = some (.iconst 3) := cf143_56.2.2.2.2.1
theorem f143_63 : zf 143 63 = some (.invokevirtual 209) := cf143_56.2.2.2.2.2.1
theorem f143_66 : zf 143 66 = some (.ireturn) := cf143_56.2.2.2.2.2.2.1
theorem f143_67 : zf 143 67 = some (.aload_n 0) := cf143_56.2.2.2.2.2.2.2.1
theorem f143_68 : zf 143 68 = some (.getfield 22) := cf143_56.2.2.2.2.2.2.2.2.1
theorem f143_71 : zf 143 71 = some (.iload_n 1) := cf143_56.2.2.2.2.2.2.2.2.2.1
theorem f143_72 : zf 143 72 = some (.iload_n 2) := cf143_56.2.2.2.2.2.2.2.2.2.2.1
theorem f143_73 : zf 143 73 = some (.iastore) := cf143_56.2.2.2.2.2.2.2.2.2.2.2.1
theorem f143_74 : zf 143 74 = some (.aload_n 0) := cf143_56.2.2.2.2.2.2.2.2.2.2.2.2.1
theorem f143_75 : zf 143 75 = some (.iconst 1) := cf143_56.2.2.2.2.2.2.2.2.2.2.2.2.2.1
theorem f143_76 : zf 143 76 = some (.invokevirtual 212) := cf143_56.2.2.2.2.2.2.2.2.2.2.2.2.2.2.1
theorem f143_79 : zf 143 79 = some (.ireturn) := cf143_56.2.2.2.2.2.2.2.2.2.2.2.2.2.2.2
theorem cf144_0 : zf 144 0 = some (.iload_n 2) ∧ zf 144 1 = some (.iconst (-1)) ∧ zf 144 2 = some (.if_icmp .eq 16) ∧ zf 144 5 = some (.aload_n 0) ∧ zf 144 6 = some (.iload_n 2) ∧ zf 144 7 = some (.invokevirtual 215) ∧ zf 144 10 = some (.ifCond .eq 12) ∧ zf 144 13 = some (.iload_n 2) ∧ zf 144 14 = some (.iload_n 1) ∧ zf 144 15 = some (.if_icmp .le 7) ∧ zf 144 18 = some (.iconst 1) ∧ zf 144 19 = some (.goto 4) ∧ zf 144 22 = some (.iconst 0) ∧ zf 144 23 = some (.ireturn) := by decide +kernel
theorem f144_0 : zf 144 0 = some (.iload_n 2) := cf144_0.1
theorem f144_1 : zf 144 1 = some (.iconst (-1)) := cf144_0.2.1
theorem f144_2 : zf 144 2 = some (.if_icmp .eq 16) := cf144_0.2.2.1
theorem f144_5 : zf 144 5 = some (.aload_n 0) := cf144_0.2.2.2.1
theorem f144_6 : zf 144 6 = some (.iload_n 2) := cf144_0.2.2.2.2.1
theorem f144_7 : zf 144 7 = some (.invokevirtual 215) := cf144_0.2.2.2.2.2.1
theorem f144_10 : zf 144 10 = some (.ifCond .eq 12) := cf144_0.2.2.2.2.2.2.1
theorem f144_13 : zf 144 13 = some (.iload_n 2) := cf144_0.2.2.2.2.2.2.2.1
theorem f144_14 : zf 144 14 = some (.iload_n 1) := cf144_0.2.2.2.2.2.2.2.2.1
theorem f144_15 : zf 144 15 = some (.if_icmp .le 7) := cf144_0.2.2.2.2.2.2.2.2.2.1
theorem f144_18 : zf 144 18 = some (.iconst 1) := cf144_0.2.2.2.2.2.2.2.2.2.2.1
theorem f144_19 : zf 144 19 = some (.goto 4) := cf144_0.2.2.2.2.2.2.2.2.2.2.2.1
theorem f144_22 : zf 144 22 = some (.iconst 0) := cf144_0.2.2.2.2.2.2.2.2.2.2.2.2.1
theorem f144_23 : zf 144 23 = some (.ireturn) := cf144_0.2.2.2.2.2.2.2.2.2.2.2.2.2
theorem cf145_0 : zf 145 0 = some (.aload_n 0) ∧ zf 145 1 = some (.iload_n 1) ∧ zf 145 2 = some (.invokevirtual 215) ∧ zf 145 5 = some (.ifCond .eq 12) ∧ zf 145 8 = some (.aload_n 0) ∧ zf 145 9 = some (.iload_n 1) ∧ zf 145 10 = some (.iload_n 2) ∧ zf 145 11 = some (.invokevirtual 221) ∧ zf 145 14 = some (.ifCond .ne 9) ∧ zf 145 17 = some (.aload_n 0) ∧ zf 145 18 = some (.iconst 1) ∧ zf 145 19 = some (.invokevirtual 209) ∧ zf 145 22 = some (.ireturn) ∧ zf 145 23 = some (.aload_n 0) ∧ zf 145 24 = some (.getfield 7) ∧ zf 145 27 = some (.iload_n 1) := by decide +kernel
theorem f145_0 : zf 145 0 = some (.aload_n 0) := cf145_0.1
theorem f145_1 : zf 145 1 = some (.iload_n 1) := cf145_0.2.1
theorem f145_2 : zf 145 2 = some (.invokevirtual 215) := cf145_0.2.2.1
theorem f145_5 : zf 145 5 = some (.ifCond .eq 12) := cf145_0.2.2.2.1
theorem f145_8 : zf 145 8 = some (.aload_n 0) := cf145_0.2.2.2.2.1
theorem f145_9 : zf 145 9 = some (.iload_n 1) := cf145_0.2.2.2.2.2.1
theorem f145_10 : zf 145 10 = some (.iload_n 2) := cf145_0.2.2.2.2.2.2.1
theorem f145_11 : zf 145 11 = some (.invokevirtual 221) := cf145_0.2.2.2.2.2.2.2.1
theorem f145_14 : zf 145 14 = some (.ifCond .ne 9) := cf145_0.2.2.2.2.2.2.2.2.1
theorem f145_17 : zf 145 17 = some (.aload_n 0) := cf145_0.2.2.2.2.2.2.2.2.2.1
theorem f145_18 : zf 145 18 = some (.iconst 1) := cf145_0.2.2.2.2.2.2.2.2.2.2.1
theorem f145_19 : zf 145 19 = some (.invokevirtual 209) := cf145_0.2.2.2.2.2.2.2.2.2.2.2.1
theorem f145_22 : zf 145 22 = some (.ireturn) := cf145_0.2.2.2.2.2.2.2.2.2.2.2.2.1
theorem f145_23 : zf 145 23 = some (.aload_n 0) := cf145_0.2.2.2.2.2.2.2.2.2.2.2.2.2.1
theorem f145_24 : zf 145 24 = some (.getfield 7) := cf145_0.2.2.2.2.2.2.2.2.2.2.2.2.2.2.1
theorem f145_27 : zf 145 27 = some (.iload_n 1) := cf145_0.2.2.2.2.2.2.2.2.2.2.2.2.2.2.2
theorem cf145_28 : zf 145 28 = some (.iaload) ∧ zf 145 29 = some (.iconst 2) ∧ zf 145 30 = some (.if_icmp .eq 9) ∧ zf 145 33 = some (.aload_n 0) ∧ zf 145 34 = some (.iconst 3) ∧ zf 145 35 = some (.invokevirtual 209) ∧ zf 145 38 = some (.ireturn) ∧ zf 145 39 = some (.aload_n 0) ∧ zf 145 40 = some (.getfield 25) ∧ zf 145 43 = some (.iload_n 1) ∧ zf 145 44 = some (.iload_n 2) ∧ zf 145 45 = some (.iastore) ∧ zf 145 46 = some (.aload_n 0) ∧ zf 145 47 = some (.iconst 1) ∧ zf 145 48 = some (.invokevirtual 212) ∧ zf 145 51 = some (.ireturn) := by decide +kernel
theorem f145_28 : zf 145 28 = some (.iaload) := cf145_28.1
theorem f145_29 : zf 145 29 = some (.iconst 2) := cf145_28.2.1
theorem f145_30 : zf 145 30 = some (.if_icmp .eq 9) := cf145_28.2.2.1
theorem f145_33 : zf 145 33 = some (.aload_n 0) := cf145_28.2.2.2.1
theorem f145_34 : zf 145 34 = some (.iconst 3) := cf145_28.2.2.2.2.1
theorem f145_35 : zf 145 35 = some (.invokevirtual 209) := cf145_28.2.2.2.2.2.1
theorem f145_38 : zf 145 38 = some (.ireturn) := cf145_28.2.2.2.2.2.2.1
theorem f145_39 : zf 145 39 = some (.aload_n 0) := cf145_28.2.2.2.2.2.2.2.1
theorem f145_40 : zf 145 40 = some (.getfield 25) := cf145_28.2.2.2.2.2.2.2.2.1
theorem f145_43 : zf 145 43 = some (.iload_n 1) := cf145_28.2.2.2.2.2.2.2.2.2.1
theorem f145_44 : zf 145 44 = some (.iload_n 2) := cf145_28.2.2.2.2.2.2.2.2.2.2.1
theorem f145_45 : zf 145 45 = some (.iastore) := cf145_28.2.2.2.2.2.2.2.2.2.2.2.1
theorem f145_46 : zf 145 46 = some (.aload_n 0) := cf145_28.2.2.2.2.2.2.2.2.2.2.2.2.1
theorem f145_47 : zf 145 47 = some (.iconst 1) := cf145_28.2.2.2.2.2.2.2.2.2.2.2.2.2.1
theorem f145_48 : zf 145 48 = some (.invokevirtual 212) := cf145_28.2.2.2.2.2.2.2.2.2.2.2.2.2.2.1
theorem f145_51 : zf 145 51 = some (.ireturn) := cf145_28.2.2.2.2.2.2.2.2.2.2.2.2.2.2.2
theorem cf146_0 : zf 146 0 = some (.aload_n 0) ∧ zf 146 1 = some (.iload_n 1) ∧ zf 146 2 = some (.invokevirtual 215) ∧ zf 146 5 = some (.ifCond .eq 12) ∧ zf 146 8 = some (.aload_n 0) ∧ zf 146 9 = some (.iload_n 1) ∧ zf 146 10 = some (.iload_n 2) ∧ zf 146 11 = some (.invokevirtual 221) ∧ zf 146 14 = some (.ifCond .ne 9) ∧ zf 146 17 = some (.aload_n 0) ∧ zf 146 18 = some (.iconst 1) ∧ zf 146 19 = some (.invokevirtual 209) ∧ zf 146 22 = some (.ireturn) ∧ zf 146 23 = some (.aload_n 0) ∧ zf 146 24 = some (.getfield 28) ∧ zf 146 27 = some (.iload_n 1) := by decide +kernel
theorem f146_0 : zf 146 0 = some (.aload_n 0) := cf146_0.1
theorem f146_1 : zf 146 1 = some (.iload_n 1) := cf146_0.2.1
theorem f146_2 : zf 146 2 = some (.invokevirtual 215) := cf146_0.2.2.1
theorem f146_5 : zf 146 5 = some (.ifCond .eq 12) := cf146_0.2.2.2.1
theorem f146_8 : zf 146 8 = some (.aload_n 0) := cf146_0.2.2.2.2.1
theorem f146_9 : zf 146 9 = some (.iload_n 1) := cf146_0.2.2.2.2.2.1
theorem f146_10 : zf 146 10 = some (.iload_n 2) := cf146_0.2.2.2.2.2.2.1
theorem f146_11 : zf 146 11 = some (.invokevirtual 221) := cf146_0.2.2.2.2.2.2.2.1
theorem f146_14 : zf 146 14 = some (.ifCond .ne 9) := cf146_0.2.2.2.2.2.2.2.2.1
theorem f146_17 : zf 146 17 = some (.aload_n 0) := cf146_0.2.2.2.2.2.2.2.2.2.1
theorem f146_18 : zf 146 18 = some (.iconst 1) := cf146_0.2.2.2.2.2.2.2.2.2.2.1
theorem f146_19 : zf 146 19 = some (.invokevirtual 209) := cf146_0.2.2.2.2.2.2.2.2.2.2.2.1
theorem f146_22 : zf 146 22 = some (.ireturn) := cf146_0.2.2.2.2.2.2.2.2.2.2.2.2.1
theorem f146_23 : zf 146 23 = some (.aload_n 0) := cf146_0.2.2.2.2.2.2.2.2.2.2.2.2.2.1
theorem f146_24 : zf 146 24 = some (.getfield 28) := cf146_0.2.2.2.2.2.2.2.2.2.2.2.2.2.2.1
theorem f146_27 : zf 146 27 = some (.iload_n 1) := cf146_0.2.2.2.2.2.2.2.2.2.2.2.2.2.2.2
theorem cf146_28 : zf 146 28 = some (.iload_n 2) ∧ zf 146 29 = some (.iastore) ∧ zf 146 30 = some (.aload_n 0) ∧ zf 146 31 = some (.iconst 1) ∧ zf 146 32 = some (.invokevirtual 212) ∧ zf 146 35 = some (.ireturn) := by decide +kernel
theorem f146_28 : zf 146 28 = some (.iload_n 2) := cf146_28.1
theorem f146_29 : zf 146 29 = some (.iastore) := cf146_28.2.1
theorem f146_30 : zf 146 30 = some (.aload_n 0) := cf146_28.2.2.1
theorem f146_31 : zf 146 31 = some (.iconst 1) := cf146_28.2.2.2.1
theorem f146_32 : zf 146 32 = some (.invokevirtual 212) := cf146_28.2.2.2.2.1
theorem f146_35 : zf 146 35 = some (.ireturn) := cf146_28.2.2.2.2.2
theorem cf147_0 : zf 147 0 = some (.iload_n 1) ∧ zf 147 1 = some (.iconst (-1)) ∧ zf 147 2 = some (.if_icmp .eq 11) ∧ zf 147 5 = some (.aload_n 0) ∧ zf 147 6 = some (.iload_n 1) ∧ zf 147 7 = some (.invokevirtual 215) ∧ zf 147 10 = some (.ifCond .eq 36) ∧ zf 147 13 = some (.aload_n 0) ∧ zf 147 14 = some (.iload_n 1) ∧ zf 147 15 = some (.iload_n 2) ∧ zf 147 16 = some (.invokevirtual 221) ∧ zf 147 19 = some (.ifCond .eq 27) ∧ zf 147 22 = some (.iload_n 1) ∧ zf 147 23 = some (.iconst (-1)) ∧ zf 147 24 = some (.if_icmp .ne 8) ∧ zf 147 27 = some (.iload_n 2) := by decide +kernel
theorem f147_0 : zf 147 0 = some (.iload_n 1) := cf147_0.1
theorem f147_1 : zf 147 1 = some (.iconst (-1)) := cf147_0.2.1
theorem f147_2 : zf 147 2 = some (.if_icmp .eq 11) := cf147_0.2.2.1
theorem f147_5 : zf 147 5 = some (.aload_n 0) := cf147_0.2.2.2.1
theorem f147_6 : zf 147 6 = some (.iload_n 1) := cf147_0.2.2.2.2.1
theorem f147_7 : zf 147 7 = some (.invokevirtual 215) := cf147_0.2.2.2.2.2.1
theorem f147_10 : zf 147 10 = some (.ifCond .eq 36) := cf147_0.2.2.2.2.2.2.1
theorem f147_13 : zf 147 13 = some (.aload_n 0) := cf147_0.2.2.2.2.2.2.2.1
theorem f147_14 : zf 147 14 = some (.iload_n 1) := cf147_0.2.2.2.2.2.2.2.2.1
theorem f147_15 : zf 147 15 = some (.iload_n 2) := cf147_0.2.2.2.2.2.2.2.2.2.1
theorem f147_16 : zf 147 16 = some (.invokevirtual 221) := cf147_0.2.2.2.2.2.2.2.2.2.2.1
theorem f147_19 : zf 147 19 = some (.ifCond .eq 27) := cf147_0.2.2.2.2.2.2.2.2.2.2.2.1
theorem f147_22 : zf 147 22 = some (.iload_n 1) := cf147_0.2.2.2.2.2.2.2.2.2.2.2.2.1
theorem f147_23 : zf 147 23 = some (.iconst (-1)) := cf147_0.2.2.2.2.2.2.2.2.2.2.2.2.2.1
theorem f147_24 : zf 147 24 = some (.if_icmp .ne 8) := cf147_0.2.2.2.2.2.2.2.2.2.2.2.2.2.2.1
theorem f147_27 : zf 147 27 = some (.iload_n 2) := cf147_0.2.2.2.2.2.2.2.2.2.2.2.2.2.2.2
theorem cf147_28 : zf 147 28 = some (.iconst (-1)) ∧ zf 147 29 = some (.if_icmp .eq 17) ∧ zf 147 32 = some (.iload_n 3) ∧ zf 147 33 = some (.iconst 1) ∧ zf 147 34 = some (.bipush 20) ∧ zf 147 36 = some (.invokestatic 117) ∧ zf 147 39 = some (.ifCond .eq 7) ∧ zf 147 42 = some (.iconst 1) ∧ zf 147 43 = some (.goto 4) ∧ zf 147 46 = some (.iconst 0) ∧ zf 147 47 = some (.istore 4) ∧ zf 147 49 = some (.iload 4) ∧ zf 147 51 = some (.ifCond .ne 9) ∧ zf 147 54 = some (.aload_n 0) ∧ zf 147 55 = some (.iconst 1) ∧ zf 147 56 = some (.invokevirtual 209) := by decide +kernel
theorem f147_28 : zf 147 28 = some (.iconst (-1)) := cf147_28.1
theorem f147_29 : zf 147 29 = some (.if_icmp .eq 17) := cf147_28.2.1
theorem f147_32 : zf 147 32 = some (.iload_n 3) := cf147_28.2.2.1
theorem f147_33 : zf 147 33 = some (.iconst 1) := cf147_28.2.2.2.1
theorem f147_34 : zf 147 34 = some (.bipush 20) := cf147_28.2.2.2.2.1
theorem f147_36 : zf 147 36 = some (.invokestatic 117) := cf147_28.2.2.2.2.2.1
theorem f147_39 : zf 147 39 = some (.ifCond .eq 7) := cf147_28.2.2.2.2.2.2.1
theorem f147_42 : zf 147 42 = some (.iconst 1) := cf147_28.2.2.2.2.2.2.2.1
theorem f147_43 : zf 147 43 = some (.goto 4) := cf147_28.2.2.2.2.2.2.2.2.1
theorem f147_46 : zf 147 46 = some (.iconst 0) := cf147_28.2.2.2.2.2.2.2.2.2.1
theorem f147_47 : zf 147 47 = some (.istore 4) := cf147_28.2.2.2.2.2.2.2.2.2.2.1
theorem f147_49 : zf 147 49 = some (.iload 4) := cf147_28.2.2.2.2.2.2.2.2.2.2.2.1
theorem f147_51 : zf 147 51 = some (.ifCond .ne 9) := cf147_28.2.2.2.2.2.2.2.2.2.2.2.2.1
theorem f147_54 : zf 147 54 = some (.aload_n 0) := cf147_28.2.2.2.2.2.2.2.2.2.2.2.2.2.1
theorem f147_55 : zf 147 55 = some (.iconst 1) := cf147_28.2.2.2.2.2.2.2.2.2.2.2.2.2.2.1
theorem f147_56 : zf 147 56 = some (.invokevirtual 209) := cf147_28.2.2.2.2.2.2.2.2.2.2.2.2.2.2.2
theorem cf147_59 : zf 147 59 = some (.ireturn) ∧ zf 147 60 = some (.aload_n 0) ∧ zf 147 61 = some (.getfield 121) ∧ zf 147 64 = some (.bipush 14) ∧ zf 147 66 = some (.if_icmp .ne 9) ∧ zf 147 69 = some (.aload_n 0) ∧ zf 147 70 = some (.iconst 2) ∧ zf 147 71 = some (.invokevirtual 209) ∧ zf 147 74 = some (.ireturn) ∧ zf 147 75 = some (.aload_n 0) ∧ zf 147 76 = some (.getfield 121) ∧ zf 147 79 = some (.istore 5) ∧ zf 147 81 = some (.aload_n 0) ∧ zf 147 82 = some (.dup) ∧ zf 147 83 = some (.getfield 121) ∧ zf 147 86 = some (.iconst 1) := by decide +kernel
theorem f147_59 : zf 147 59 = some (.ireturn) := cf147_59.1
theorem f147_60 : zf 147 60 = some (.aload_n 0) := cf147_59.2.1
theorem f147_61 : zf 147 61 = some (.getfield 121) := cf147_59.2.2.1
theorem f147_64 : zf 147 64 = some (.bipush 14) := cf147_59.2.2.2.1
theorem f147_66 : zf 147 66 = some (.if_icmp .ne 9) := cf147_59.2.2.2.2.1
theorem f147_69 : zf 147 69 = some (.aload_n 0) := cf147_59.2.2.2.2.2.1
theorem f147_70 : zf 147 70 = some (.iconst 2) := cf147_59.2.2.2.2.2.2.1
theorem f147_71 : zf 147 71 = some (.invokevirtual 209) := cf147_59.2.2.2.2.2.2.2.1
theorem f147_74 : zf 147 74 = some (.ireturn) := cf147_59.2.2.2.2.2.2.2.2.1
theorem f147_75 : zf 147 75 = some (.aload_n 0) := cf147_59.2.2.2.2.2.2.2.2.2.1
theorem f147_76 : zf 147 76 = some (.getfield 121) := cf147_59.2.2.2.2.2.2.2.2.2.2.1
theorem f147_79 : zf 147 79 = some (.istore 5) := cf147_59.2.2.2.2.2.2.2.2.2.2.2.1
theorem f147_81 : zf 147 81 = some (.aload_n 0) := cf147_59.2.2.2.2.2.2.2.2.2.2.2.2.1
theorem f147_82 : zf 147 82 = some (.dup) := cf147_59.2.2.2.2.2.2.2.2.2.2.2.2.2.1
theorem f147_83 : zf 147 83 = some (.getfield 121) := cf147_59.2.2.2.2.2.2.2.2.2.2.2.2.2.2.1
theorem f147_86 : zf 147 86 = some (.iconst 1) := cf147_59.2.2.2.2.2.2.2.2.2.2.2.2.2.2.2
theorem cf147_87 : zf 147 87 = some (.iadd) ∧ zf 147 88 = some (.putfield 121) ∧ zf 147 91 = some (.aload_n 0) ∧ zf 147 92 = some (.getfield 31) ∧ zf 147 95 = some (.iload 5) ∧ zf 147 97 = some (.iload_n 1) ∧ zf 147 98 = some (.iastore) ∧ zf 147 99 = some (.aload_n 0) ∧ zf 147 100 = some (.getfield 34) ∧ zf 147 103 = some (.iload 5) ∧ zf 147 105 = some (.iload_n 2) ∧ zf 147 106 = some (.iastore) ∧ zf 147 107 = some (.aload_n 0) ∧ zf 147 108 = some (.getfield 37) ∧ zf 147 111 = some (.iload 5) ∧ zf 147 113 = some (.iload_n 3) := by decide +kernel
theorem f147_87 : zf 147 87 = some (.iadd) := cf147_87.1
theorem f147_88 : zf 147 88 = some (.putfield 121) := cf147_87.2.1
theorem f147_91 : zf 147 91 = some (.aload_n 0) := cf147_87.2.2.1
theorem f147_92 : zf 147 92 = some (.getfield 31) := cf147_87.2.2.2.1
theorem f147_95 : zf 147 95 = some (.iload 5) := cf147_87.2.2.2.2.1
theorem f147_97 : zf 147 97 = some (.iload_n 1) := cf147_87.2.2.2.2.2.1
theorem f147_98 : zf 147 98 = some (.iastore) := cf147_87.2.2.2.2.2.2.1
theorem f147_99 : zf 147 99 = some (.aload_n 0) := cf147_87.2.2.2.2.2.2.2.1
theorem f147_100 : zf 147 100 = some (.getfield 34) := cf147_87.2.2.2.2.2.2.2.2.1
theorem f147_103 : zf 147 103 = some (.iload 5) := cf147_87.2.2.2.2.2.2.2.2.2.1
theorem f147_105 : zf 147 105 = some (.iload_n 2) := cf147_87.2.2.2.2.2.2.2.2.2.2.1
theorem f147_106 : zf 147 106 = some (.iastore) := cf147_87.2.2.2.2.2.2.2.2.2.2.2.1
theorem f147_107 : zf 147 107 = some (.aload_n 0) := cf147_87.2.2.2.2.2.2.2.2.2.2.2.2.1
theorem f147_108 : zf 147 108 = some (.getfield 37) := cf147_87.2.2.2.2.2.2.2.2.2.2.2.2.2.1
theorem f147_111 : zf 147 111 = some (.iload 5) := cf147_87.2.2.2.2.2.2.2.2.2.2.2.2.2.2.1
theorem f147_113 : zf 147 113 = some (.iload_n 3) := cf147_87.2.2.2.2.2.2.2.2.2.2.2.2.2.2.2
theorem cf147_114 : zf 147 114 = some (.iastore) ∧ zf 147 115 = some (.aload_n 0) ∧ zf 147 116 = some (.getfield 48) ∧ zf 147 119 = some (.iload 5) ∧ zf 147 121 = some (.iconst 1) ∧ zf 147 122 = some (.bastore) ∧ zf 147 123 = some (.aload_n 0) ∧ zf 147 124 = some (.iload 5) ∧ zf 147 126 = some (.invokevirtual 212) ∧ zf 147 129 = some (.ireturn) := by decide +kernel
theorem f147_114 : zf 147 114 = some (.iastore) := cf147_114.1
theorem f147_115 : zf 147 115 = some (.aload_n 0) := cf147_114.2.1
theorem f147_116 : zf 147 116 = some (.getfield 48) := cf147_114.2.2.1
theorem f147_119 : zf 147 119 = some (.iload 5) := cf147_114.2.2.2.1
theorem f147_121 : zf 147 121 = some (.iconst 1) := cf147_114.2.2.2.2.1
theorem f147_122 : zf 147 122 = some (.bastore) := cf147_114.2.2.2.2.2.1
theorem f147_123 : zf 147 123 = some (.aload_n 0) := cf147_114.2.2.2.2.2.2.1
theorem f147_124 : zf 147 124 = some (.iload 5) := cf147_114.2.2.2.2.2.2.2.1
theorem f147_126 : zf 147 126 = some (.invokevirtual 212) := cf147_114.2.2.2.2.2.2.2.2.1
theorem f147_129 : zf 147 129 = some (.ireturn) := cf147_114.2.2.2.2.2.2.2.2.2
theorem cf148_0 : zf 148 0 = some (.aload_n 0) ∧ zf 148 1 = some (.iload_n 1) ∧ zf 148 2 = some (.invokevirtual 215) ∧ zf 148 5 = some (.ifCond .eq 14) ∧ zf 148 8 = some (.iload_n 2) ∧ zf 148 9 = some (.iconst 1) ∧ zf 148 10 = some (.sipush 1000) ∧ zf 148 13 = some (.invokestatic 117) ∧ zf 148 16 = some (.ifCond .ne 9) ∧ zf 148 19 = some (.aload_n 0) ∧ zf 148 20 = some (.iconst 1) ∧ zf 148 21 = some (.invokevirtual 209) ∧ zf 148 24 = some (.ireturn) ∧ zf 148 25 = some (.aload_n 0) ∧ zf 148 26 = some (.dup) ∧ zf 148 27 = some (.getfield 225) := by decide +kernel
theorem f148_0 : zf 148 0 = some (.aload_n 0) := cf148_0.1
theorem f148_1 : zf 148 1 = some (.iload_n 1) := cf148_0.2.1
theorem f148_2 : zf 148 2 = some (.invokevirtual 215) := cf148_0.2.2.1
theorem f148_5 : zf 148 5 = some (.ifCond .eq 14) := cf148_0.2.2.2.1
theorem f148_8 : zf 148 8 = some (.iload_n 2) := cf148_0.2.2.2.2.1
theorem f148_9 : zf 148 9 = some (.iconst 1) := cf148_0.2.2.2.2.2.1
theorem f148_10 : zf 148 10 = some (.sipush 1000) := cf148_0.2.2.2.2.2.2.1
theorem f148_13 : zf 148 13 = some (.invokestatic 117) := cf148_0.2.2.2.2.2.2.2.1
theorem f148_16 : zf 148 16 = some (.ifCond .ne 9) := cf148_0.2.2.2.2.2.2.2.2.1
theorem f148_19 : zf 148 19 = some (.aload_n 0) := cf148_0.2.2.2.2.2.2.2.2.2.1
theorem f148_20 : zf 148 20 = some (.iconst 1) := cf148_0.2.2.2.2.2.2.2.2.2.2.1
theorem f148_21 : zf 148 21 = some (.invokevirtual 209) := cf148_0.2.2.2.2.2.2.2.2.2.2.2.1
theorem f148_24 : zf 148 24 = some (.ireturn) := cf148_0.2.2.2.2.2.2.2.2.2.2.2.2.1
theorem f148_25 : zf 148 25 = some (.aload_n 0) := cf148_0.2.2.2.2.2.2.2.2.2.2.2.2.2.1
theorem f148_26 : zf 148 26 = some (.dup) := cf148_0.2.2.2.2.2.2.2.2.2.2.2.2.2.2.1
theorem f148_27 : zf 148 27 = some (.getfield 225) := cf148_0.2.2.2.2.2.2.2.2.2.2.2.2.2.2.2
theorem cf148_30 : zf 148 30 = some (.iload_n 2) ∧ zf 148 31 = some (.i2l) ∧ zf 148 32 = some (.ladd) ∧ zf 148 33 = some (.putfield 225) ∧ zf 148 36 = some (.aload_n 0) ∧ zf 148 37 = some (.iload_n 1) ∧ zf 148 38 = some (.iload_n 2) ∧ zf 148 39 = some (.i2l) ∧ zf 148 40 = some (.aload_n 0) ∧ zf 148 41 = some (.getfield 40) ∧ zf 148 44 = some (.lmul) ∧ zf 148 45 = some (.invokevirtual 192) ∧ zf 148 48 = some (.aload_n 0) ∧ zf 148 49 = some (.iconst 1) ∧ zf 148 50 = some (.invokevirtual 212) ∧ zf 148 53 = some (.ireturn) := by decide +kernel
theorem f148_30 : zf 148 30 = some (.iload_n 2) := cf148_30.1
theorem f148_31 : zf 148 31 = some (.i2l) := cf148_30.2.1
theorem f148_32 : zf 148 32 = some (.ladd) := cf148_30.2.2.1
theorem f148_33 : zf 148 33 = some (.putfield 225) := cf148_30.2.2.2.1
theorem f148_36 : zf 148 36 = some (.aload_n 0) := cf148_30.2.2.2.2.1
theorem f148_37 : zf 148 37 = some (.iload_n 1) := cf148_30.2.2.2.2.2.1
theorem f148_38 : zf 148 38 = some (.iload_n 2) := cf148_30.2.2.2.2.2.2.1
theorem f148_39 : zf 148 39 = some (.i2l) := cf148_30.2.2.2.2.2.2.2.1
theorem f148_40 : zf 148 40 = some (.aload_n 0) := cf148_30.2.2.2.2.2.2.2.2.1
theorem f148_41 : zf 148 41 = some (.getfield 40) := cf148_30.2.2.2.2.2.2.2.2.2.1
theorem f148_44 : zf 148 44 = some (.lmul) := cf148_30.2.2.2.2.2.2.2.2.2.2.1
theorem f148_45 : zf 148 45 = some (.invokevirtual 192) := cf148_30.2.2.2.2.2.2.2.2.2.2.2.1
theorem f148_48 : zf 148 48 = some (.aload_n 0) := cf148_30.2.2.2.2.2.2.2.2.2.2.2.2.1
theorem f148_49 : zf 148 49 = some (.iconst 1) := cf148_30.2.2.2.2.2.2.2.2.2.2.2.2.2.1
theorem f148_50 : zf 148 50 = some (.invokevirtual 212) := cf148_30.2.2.2.2.2.2.2.2.2.2.2.2.2.2.1
theorem f148_53 : zf 148 53 = some (.ireturn) := cf148_30.2.2.2.2.2.2.2.2.2.2.2.2.2.2.2
theorem cf149_0 : zf 149 0 = some (.aload_n 0) ∧ zf 149 1 = some (.iload_n 1) ∧ zf 149 2 = some (.invokevirtual 218) ∧ zf 149 5 = some (.ifCond .ne 9) ∧ zf 149 8 = some (.aload_n 0) ∧ zf 149 9 = some (.iconst 1) ∧ zf 149 10 = some (.invokevirtual 209) ∧ zf 149 13 = some (.ireturn) ∧ zf 149 14 = some (.aload_n 0) ∧ zf 149 15 = some (.getfield 48) ∧ zf 149 18 = some (.iload_n 1) ∧ zf 149 19 = some (.baload) ∧ zf 149 20 = some (.iload_n 2) ∧ zf 149 21 = some (.if_icmp .ne 7) ∧ zf 149 24 = some (.iconst 1) ∧ zf 149 25 = some (.goto 4) := by decide +kernel
theorem f149_0 : zf 149 0 = some (.aload_n 0) := cf149_0.1
theorem f149_1 : zf 149 1 = some (.iload_n 1) := cf149_0.2.1
theorem f149_2 : zf 149 2 = some (.invokevirtual 218) := cf149_0.2.2.1
theorem f149_5 : zf 149 5 = some (.ifCond .ne 9) := cf149_0.2.2.2.1
theorem f149_8 : zf 149 8 = some (.aload_n 0) := cf149_0.2.2.2.2.1
theorem f149_9 : zf 149 9 = some (.iconst 1) := cf149_0.2.2.2.2.2.1
theorem f149_10 : zf 149 10 = some (.invokevirtual 209) := cf149_0.2.2.2.2.2.2.1
theorem f149_13 : zf 149 13 = some (.ireturn) := cf149_0.2.2.2.2.2.2.2.1
theorem f149_14 : zf 149 14 = some (.aload_n 0) := cf149_0.2.2.2.2.2.2.2.2.1
theorem f149_15 : zf 149 15 = some (.getfield 48) := cf149_0.2.2.2.2.2.2.2.2.2.1
theorem f149_18 : zf 149 18 = some (.iload_n 1) := cf149_0.2.2.2.2.2.2.2.2.2.2.1
theorem f149_19 : zf 149 19 = some (.baload) := cf149_0.2.2.2.2.2.2.2.2.2.2.2.1
theorem f149_20 : zf 149 20 = some (.iload_n 2) := cf149_0.2.2.2.2.2.2.2.2.2.2.2.2.1
theorem f149_21 : zf 149 21 = some (.if_icmp .ne 7) := cf149_0.2.2.2.2.2.2.2.2.2.2.2.2.2.1
theorem f149_24 : zf 149 24 = some (.iconst 1) := cf149_0.2.2.2.2.2.2.2.2.2.2.2.2.2.2.1
theorem f149_25 : zf 149 25 = some (.goto 4) := cf149_0.2.2.2.2.2.2.2.2.2.2.2.2.2.2.2
theorem cf149_28 : zf 149 28 = some (.iconst 0) ∧ zf 149 29 = some (.istore_n 3) ∧ zf 149 30 = some (.aload_n 0) ∧ zf 149 31 = some (.getfield 48) ∧ zf 149 34 = some (.iload_n 1) ∧ zf 149 35 = some (.iload_n 2) ∧ zf 149 36 = some (.ifCond .ne 7) ∧ zf 149 39 = some (.iconst 1) ∧ zf 149 40 = some (.goto 4) ∧ zf 149 43 = some (.iconst 0) ∧ zf 149 44 = some (.bastore) ∧ zf 149 45 = some (.aload_n 0) ∧ zf 149 46 = some (.iload_n 3) ∧ zf 149 47 = some (.invokevirtual 212) ∧ zf 149 50 = some (.ireturn) := by decide +kernel
theorem f149_28 : zf 149 28 = some (.iconst 0) := cf149_28.1
theorem f149_29 : zf 149 29 = some (.istore_n 3) := cf149_28.2.1
theorem f149_30 : zf 149 30 = some (.aload_n 0) := cf149_28.2.2.1
theorem f149_31 : zf 149 31 = some (.getfield 48) := cf149_28.2.2.2.1
theorem f149_34 : zf 149 34 = some (.iload_n 1) := cf149_28.2.2.2.2.1
theorem f149_35 : zf 149 35 = some (.iload_n 2) := cf149_28.2.2.2.2.2.1
theorem f149_36 : zf 149 36 = some (.ifCond .ne 7) := cf149_28.2.2.2.2.2.2.1
theorem f149_39 : zf 149 39 = some (.iconst 1) := cf149_28.2.2.2.2.2.2.2.1
theorem f149_40 : zf 149 40 = some (.goto 4) := cf149_28.2.2.2.2.2.2.2.2.1
theorem f149_43 : zf 149 43 = some (.iconst 0) := cf149_28.2.2.2.2.2.2.2.2.2.1
theorem f149_44 : zf 149 44 = some (.bastore) := cf149_28.2.2.2.2.2.2.2.2.2.2.1
theorem f149_45 : zf 149 45 = some (.aload_n 0) := cf149_28.2.2.2.2.2.2.2.2.2.2.2.1
theorem f149_46 : zf 149 46 = some (.iload_n 3) := cf149_28.2.2.2.2.2.2.2.2.2.2.2.2.1
theorem f149_47 : zf 149 47 = some (.invokevirtual 212) := cf149_28.2.2.2.2.2.2.2.2.2.2.2.2.2.1
theorem f149_50 : zf 149 50 = some (.ireturn) := cf149_28.2.2.2.2.2.2.2.2.2.2.2.2.2.2
theorem cf150_0 : zf 150 0 = some (.aload_n 0) ∧ zf 150 1 = some (.iload_n 1) ∧ zf 150 2 = some (.invokevirtual 218) ∧ zf 150 5 = some (.ifCond .eq 13) ∧ zf 150 8 = some (.iload_n 2) ∧ zf 150 9 = some (.iconst 1) ∧ zf 150 10 = some (.bipush 20) ∧ zf 150 12 = some (.invokestatic 117) ∧ zf 150 15 = some (.ifCond .ne 9) ∧ zf 150 18 = some (.aload_n 0) ∧ zf 150 19 = some (.iconst 1) ∧ zf 150 20 = some (.invokevirtual 209) ∧ zf 150 23 = some (.ireturn) ∧ zf 150 24 = some (.aload_n 0) ∧ zf 150 25 = some (.getfield 37) ∧ zf 150 28 = some (.iload_n 1) := by decide +kernel
theorem f150_0 : zf 150 0 = some (.aload_n 0) := cf150_0.1
theorem f150_1 : zf 150 1 = some (.iload_n 1) := cf150_0.2.1
theorem f150_2 : zf 150 2 = some (.invokevirtual 218) := cf150_0.2.2.1
theorem f150_5 : zf 150 5 = some (.ifCond .eq 13) := cf150_0.2.2.2.1
theorem f150_8 : zf 150 8 = some (.iload_n 2) := cf150_0.2.2.2.2.1
theorem f150_9 : zf 150 9 = some (.iconst 1) := cf150_0.2.2.2.2.2.1
theorem f150_10 : zf 150 10 = some (.bipush 20) := cf150_0.2.2.2.2.2.2.1
theorem f150_12 : zf 150 12 = some (.invokestatic 117) := cf150_0.2.2.2.2.2.2.2.1
theorem f150_15 : zf 150 15 = some (.ifCond .ne 9) := cf150_0.2.2.2.2.2.2.2.2.1
theorem f150_18 : zf 150 18 = some (.aload_n 0) := cf150_0.2.2.2.2.2.2.2.2.2.1
theorem f150_19 : zf 150 19 = some (.iconst 1) := cf150_0.2.2.2.2.2.2.2.2.2.2.1
theorem f150_20 : zf 150 20 = some (.invokevirtual 209) := cf150_0.2.2.2.2.2.2.2.2.2.2.2.1
theorem f150_23 : zf 150 23 = some (.ireturn) := cf150_0.2.2.2.2.2.2.2.2.2.2.2.2.1
theorem f150_24 : zf 150 24 = some (.aload_n 0) := cf150_0.2.2.2.2.2.2.2.2.2.2.2.2.2.1
theorem f150_25 : zf 150 25 = some (.getfield 37) := cf150_0.2.2.2.2.2.2.2.2.2.2.2.2.2.2.1
theorem f150_28 : zf 150 28 = some (.iload_n 1) := cf150_0.2.2.2.2.2.2.2.2.2.2.2.2.2.2.2
theorem cf150_29 : zf 150 29 = some (.iaload) ∧ zf 150 30 = some (.istore_n 3) ∧ zf 150 31 = some (.aload_n 0) ∧ zf 150 32 = some (.getfield 37) ∧ zf 150 35 = some (.iload_n 1) ∧ zf 150 36 = some (.iload_n 2) ∧ zf 150 37 = some (.iastore) ∧ zf 150 38 = some (.aload_n 0) ∧ zf 150 39 = some (.iload_n 3) ∧ zf 150 40 = some (.invokevirtual 212) ∧ zf 150 43 = some (.ireturn) := by decide +kernel
theorem f150_29 : zf 150 29 = some (.iaload) := cf150_29.1
theorem f150_30 : zf 150 30 = some (.istore_n 3) := cf150_29.2.1
theorem f150_31 : zf 150 31 = some (.aload_n 0) := cf150_29.2.2.1
theorem f150_32 : zf 150 32 = some (.getfield 37) := cf150_29.2.2.2.1
theorem f150_35 : zf 150 35 = some (.iload_n 1) := cf150_29.2.2.2.2.1
theorem f150_36 : zf 150 36 = some (.iload_n 2) := cf150_29.2.2.2.2.2.1
theorem f150_37 : zf 150 37 = some (.iastore) := cf150_29.2.2.2.2.2.2.1
theorem f150_38 : zf 150 38 = some (.aload_n 0) := cf150_29.2.2.2.2.2.2.2.1
theorem f150_39 : zf 150 39 = some (.iload_n 3) := cf150_29.2.2.2.2.2.2.2.2.1
theorem f150_40 : zf 150 40 = some (.invokevirtual 212) := cf150_29.2.2.2.2.2.2.2.2.2.1
theorem f150_43 : zf 150 43 = some (.ireturn) := cf150_29.2.2.2.2.2.2.2.2.2.2
theorem cf151_0 : zf 151 0 = some (.aload_n 0) ∧ zf 151 1 = some (.invokevirtual 228) ∧ zf 151 4 = some (.aload_n 0) ∧ zf 151 5 = some (.getfield 142) ∧ zf 151 8 = some (.ifCond .ne 32) ∧ zf 151 11 = some (.aload_n 0) ∧ zf 151 12 = some (.getfield 148) ∧ zf 151 15 = some (.aload_n 0) ∧ zf 151 16 = some (.getfield 40) ∧ zf 151 19 = some (.lmul) ∧ zf 151 20 = some (.lload_n 1) ∧ zf 151 21 = some (.aload_n 0) ∧ zf 151 22 = some (.getfield 40) ∧ zf 151 25 = some (.lmul) ∧ zf 151 26 = some (.aload_n 0) ∧ zf 151 27 = some (.getfield 172) := by decide +kernel
theorem f151_0 : zf 151 0 = some (.aload_n 0) := cf151_0.1
theorem f151_1 : zf 151 1 = some (.invokevirtual 228) := cf151_0.2.1
theorem f151_4 : zf 151 4 = some (.aload_n 0) := cf151_0.2.2.1
theorem f151_5 : zf 151 5 = some (.getfield 142) := cf151_0.2.2.2.1
theorem f151_8 : zf 151 8 = some (.ifCond .ne 32) := cf151_0.2.2.2.2.1
theorem f151_11 : zf 151 11 = some (.aload_n 0) := cf151_0.2.2.2.2.2.1
theorem f151_12 : zf 151 12 = some (.getfield 148) := cf151_0.2.2.2.2.2.2.1
theorem f151_15 : zf 151 15 = some (.aload_n 0) := cf151_0.2.2.2.2.2.2.2.1
theorem f151_16 : zf 151 16 = some (.getfield 40) := cf151_0.2.2.2.2.2.2.2.2.1
theorem f151_19 : zf 151 19 = some (.lmul) := cf151_0.2.2.2.2.2.2.2.2.2.1
theorem f151_20 : zf 151 20 = some (.lload_n 1) := cf151_0.2.2.2.2.2.2.2.2.2.2.1
theorem f151_21 : zf 151 21 = some (.aload_n 0) := cf151_0.2.2.2.2.2.2.2.2.2.2.2.1
theorem f151_22 : zf 151 22 = some (.getfield 40) := cf151_0.2.2.2.2.2.2.2.2.2.2.2.2.1
theorem f151_25 : zf 151 25 = some (.lmul) := cf151_0.2.2.2.2.2.2.2.2.2.2.2.2.2.1
theorem f151_26 : zf 151 26 = some (.aload_n 0) := cf151_0.2.2.2.2.2.2.2.2.2.2.2.2.2.2.1
theorem f151_27 : zf 151 27 = some (.getfield 172) := cf151_0.2.2.2.2.2.2.2.2.2.2.2.2.2.2.2
theorem cf151_30 : zf 151 30 = some (.lsub) ∧ zf 151 31 = some (.aload_n 0) ∧ zf 151 32 = some (.getfield 145) ∧ zf 151 35 = some (.lmul) ∧ zf 151 36 = some (.lcmp) ∧ zf 151 37 = some (.ifCond .le 5) ∧ zf 151 40 = some (.iconst 0) ∧ zf 151 41 = some (.ireturn) ∧ zf 151 42 = some (.aload_n 0) ∧ zf 151 43 = some (.aload_n 0) ∧ zf 151 44 = some (.getfield 148) ∧ zf 151 47 = some (.aload_n 0) ∧ zf 151 48 = some (.getfield 145) ∧ zf 151 51 = some (.invokevirtual 231) ∧ zf 151 54 = some (.ifCond .ne 5) ∧ zf 151 57 = some (.iconst (-1)) := by decide +kernel
theorem f151_30 : zf 151 30 = some (.lsub) := cf151_30.1
theorem f151_31 : zf 151 31 = some (.aload_n 0) := cf151_30.2.1
theorem f151_32 : zf 151 32 = some (.getfield 145) := cf151_30.2.2.1
theorem f151_35 : zf 151 35 = some (.lmul) := cf151_30.2.2.2.1
theorem f151_36 : zf 151 36 = some (.lcmp) := cf151_30.2.2.2.2.1
theorem f151_37 : zf 151 37 = some (.ifCond .le 5) := cf151_30.2.2.2.2.2.1
theorem f151_40 : zf 151 40 = some (.iconst 0) := cf151_30.2.2.2.2.2.2.1
theorem f151_41 : zf 151 41 = some (.ireturn) := cf151_30.2.2.2.2.2.2.2.1
theorem f151_42 : zf 151 42 = some (.aload_n 0) := cf151_30.2.2.2.2.2.2.2.2.1
theorem f151_43 : zf 151 43 = some (.aload_n 0) := cf151_30.2.2.2.2.2.2.2.2.2.1
theorem f151_44 : zf 151 44 = some (.getfield 148) := cf151_30.2.2.2.2.2.2.2.2.2.2.1
theorem f151_47 : zf 151 47 = some (.aload_n 0) := cf151_30.2.2.2.2.2.2.2.2.2.2.2.1
theorem f151_48 : zf 151 48 = some (.getfield 145) := cf151_30.2.2.2.2.2.2.2.2.2.2.2.2.1
theorem f151_51 : zf 151 51 = some (.invokevirtual 231) := cf151_30.2.2.2.2.2.2.2.2.2.2.2.2.2.1
theorem f151_54 : zf 151 54 = some (.ifCond .ne 5) := cf151_30.2.2.2.2.2.2.2.2.2.2.2.2.2.2.1
theorem f151_57 : zf 151 57 = some (.iconst (-1)) := cf151_30.2.2.2.2.2.2.2.2.2.2.2.2.2.2.2
theorem cf151_58 : zf 151 58 = some (.ireturn) ∧ zf 151 59 = some (.aload_n 0) ∧ zf 151 60 = some (.invokevirtual 202) ∧ zf 151 63 = some (.iconst 1) ∧ zf 151 64 = some (.ireturn) := by decide +kernel
theorem f151_58 : zf 151 58 = some (.ireturn) := cf151_58.1
theorem f151_59 : zf 151 59 = some (.aload_n 0) := cf151_58.2.1
theorem f151_60 : zf 151 60 = some (.invokevirtual 202) := cf151_58.2.2.1
theorem f151_63 : zf 151 63 = some (.iconst 1) := cf151_58.2.2.2.1
theorem f151_64 : zf 151 64 = some (.ireturn) := cf151_58.2.2.2.2
theorem cf152_0 : zf 152 0 = some (.iload_n 1) ∧ zf 152 1 = some (.sipush 10000) ∧ zf 152 4 = some (.if_icmp .gt 18) ∧ zf 152 7 = some (.iload_n 1) ∧ zf 152 8 = some (.i2l) ∧ zf 152 9 = some (.aload_n 0) ∧ zf 152 10 = some (.getfield 40) ∧ zf 152 13 = some (.lmul) ∧ zf 152 14 = some (.aload_n 0) ∧ zf 152 15 = some (.getfield 172) ∧ zf 152 18 = some (.lcmp) ∧ zf 152 19 = some (.ifCond .ge 9) ∧ zf 152 22 = some (.aload_n 0) ∧ zf 152 23 = some (.iconst 1) ∧ zf 152 24 = some (.invokevirtual 209) ∧ zf 152 27 = some (.ireturn) := by decide +kernel
theorem f152_0 : zf 152 0 = some (.iload_n 1) := cf152_0.1
theorem f152_1 : zf 152 1 = some (.sipush 10000) := cf152_0.2.1
theorem f152_4 : zf 152 4 = some (.if_icmp .gt 18) := cf152_0.2.2.1
theorem f152_7 : zf 152 7 = some (.iload_n 1) := cf152_0.2.2.2.1
theorem f152_8 : zf 152 8 = some (.i2l) := cf152_0.2.2.2.2.1
theorem f152_9 : zf 152 9 = some (.aload_n 0) := cf152_0.2.2.2.2.2.1
theorem f152_10 : zf 152 10 = some (.getfield 40) := cf152_0.2.2.2.2.2.2.1
theorem f152_13 : zf 152 13 = some (.lmul) := cf152_0.2.2.2.2.2.2.2.1
theorem f152_14 : zf 152 14 = some (.aload_n 0) := cf152_0.2.2.2.2.2.2.2.2.1
theorem f152_15 : zf 152 15 = some (.getfield 172) := cf152_0.2.2.2.2.2.2.2.2.2.1
theorem f152_18 : zf 152 18 = some (.lcmp) := cf152_0.2.2.2.2.2.2.2.2.2.2.1
theorem f152_19 : zf 152 19 = some (.ifCond .ge 9) := cf152_0.2.2.2.2.2.2.2.2.2.2.2.1
theorem f152_22 : zf 152 22 = some (.aload_n 0) := cf152_0.2.2.2.2.2.2.2.2.2.2.2.2.1
theorem f152_23 : zf 152 23 = some (.iconst 1) := cf152_0.2.2.2.2.2.2.2.2.2.2.2.2.2.1
theorem f152_24 : zf 152 24 = some (.invokevirtual 209) := cf152_0.2.2.2.2.2.2.2.2.2.2.2.2.2.2.1
theorem f152_27 : zf 152 27 = some (.ireturn) := cf152_0.2.2.2.2.2.2.2.2.2.2.2.2.2.2.2
theorem cf152_28 : zf 152 28 = some (.aload_n 0) ∧ zf 152 29 = some (.getfield 183) ∧ zf 152 32 = some (.istore_n 2) ∧ zf 152 33 = some (.iconst 0) ∧ zf 152 34 = some (.istore_n 3) ∧ zf 152 35 = some (.iconst 1) ∧ zf 152 36 = some (.istore 4) ∧ zf 152 38 = some (.iload 4) ∧ zf 152 40 = some (.iconst 1) ∧ zf 152 41 = some (.if_icmp .ne 81) ∧ zf 152 44 = some (.aload_n 0) ∧ zf 152 45 = some (.invokevirtual 228) ∧ zf 152 48 = some (.aload_n 0) ∧ zf 152 49 = some (.getfield 142) ∧ zf 152 52 = some (.ifCond .ne 37) ∧ zf 152 55 = some (.aload_n 0) := by decide +kernel
theorem f152_28 : zf 152 28 = some (.aload_n 0) := cf152_28.1
theorem f152_29 : zf 152 29 = some (.getfield 183) := cf152_28.2.1
theorem f152_32 : zf 152 32 = some (.istore_n 2) := cf152_28.2.2.1
theorem f152_33 : zf 152 33 = some (.iconst 0) := cf152_28.2.2.2.1
theorem f152_34 : zf 152 34 = some (.istore_n 3) := cf152_28.2.2.2.2.1
theorem f152_35 : zf 152 35 = some (.iconst 1) := cf152_28.2.2.2.2.2.1
theorem f152_36 : zf 152 36 = some (.istore 4) := cf152_28.2.2.2.2.2.2.1
theorem f152_38 : zf 152 38 = some (.iload 4) := cf152_28.2.2.2.2.2.2.2.1
theorem f152_40 : zf 152 40 = some (.iconst 1) := cf152_28.2.2.2.2.2.2.2.2.1
theorem f152_41 : zf 152 41 = some (.if_icmp .ne 81) := cf152_28.2.2.2.2.2.2.2.2.2.1
theorem f152_44 : zf 152 44 = some (.aload_n 0) := cf152_28.2.2.2.2.2.2.2.2.2.2.1
theorem f152_45 : zf 152 45 = some (.invokevirtual 228) := cf152_28.2.2.2.2.2.2.2.2.2.2.2.1
theorem f152_48 : zf 152 48 = some (.aload_n 0) := cf152_28.2.2.2.2.2.2.2.2.2.2.2.2.1
theorem f152_49 : zf 152 49 = some (.getfield 142) := cf152_28.2.2.2.2.2.2.2.2.2.2.2.2.2.1
theorem f152_52 : zf 152 52 = some (.ifCond .ne 37) := cf152_28.2.2.2.2.2.2.2.2.2.2.2.2.2.2.1
theorem f152_55 : zf 152 55 = some (.aload_n 0) := cf152_28.2.2.2.2.2.2.2.2.2.2.2.2.2.2.2
theorem cf152_56 : zf 152 56 = some (.getfield 148) ∧ zf 152 59 = some (.aload_n 0) ∧ zf 152 60 = some (.getfield 40) ∧ zf 152 63 = some (.lmul) ∧ zf 152 64 = some (.iload_n 1) ∧ zf 152 65 = some (.i2l) ∧ zf 152 66 = some (.aload_n 0) ∧ zf 152 67 = some (.getfield 40) ∧ zf 152 70 = some (.lmul) ∧ zf 152 71 = some (.aload_n 0) ∧ zf 152 72 = some (.getfield 172) ∧ zf 152 75 = some (.lsub) ∧ zf 152 76 = some (.aload_n 0) ∧ zf 152 77 = some (.getfield 145) ∧ zf 152 80 = some (.lmul) ∧ zf 152 81 = some (.lcmp) := by decide +kernel
theorem f152_56 : zf 152 56 = some (.getfield 148) := cf152_56.1
theorem f152_59 : zf 152 59 = some (.aload_n 0) := cf152_56.2.1
theorem f152_60 : zf 152 60 = some (.getfield 40) := cf152_56.2.2.1
theorem f152_63 : zf 152 63 = some (.lmul) := cf152_56.2.2.2.1
theorem f152_64 : zf 152 64 = some (.iload_n 1) := cf152_56.2.2.2.2.1
theorem f152_65 : zf 152 65 = some (.i2l) := cf152_56.2.2.2.2.2.1
theorem f152_66 : zf 152 66 = some (.aload_n 0) := cf152_56.2.2.2.2.2.2.1
theorem f152_67 : zf 152 67 = some (.getfield 40) := cf152_56.2.2.2.2.2.2.2.1
theorem f152_70 : zf 152 70 = some (.lmul) := cf152_56.2.2.2.2.2.2.2.2.1
theorem f152_71 : zf 152 71 = some (.aload_n 0) := cf152_56.2.2.2.2.2.2.2.2.2.1
theorem f152_72 : zf 152 72 = some (.getfield 172) := cf152_56.2.2.2.2.2.2.2.2.2.2.1
theorem f152_75 : zf 152 75 = some (.lsub) := cf152_56.2.2.2.2.2.2.2.2.2.2.2.1
theorem f152_76 : zf 152 76 = some (.aload_n 0) := cf152_56.2.2.2.2.2.2.2.2.2.2.2.2.1
theorem f152_77 : zf 152 77 = some (.getfield 145) := cf152_56.2.2.2.2.2.2.2.2.2.2.2.2.2.1
theorem f152_80 : zf 152 80 = some (.lmul) := cf152_56.2.2.2.2.2.2.2.2.2.2.2.2.2.2.1
theorem f152_81 : zf 152 81 = some (.lcmp) := cf152_56.2.2.2.2.2.2.2.2.2.2.2.2.2.2.2
theorem cf152_82 : zf 152 82 = some (.ifCond .gt 7) ∧ zf 152 85 = some (.iconst 1) ∧ zf 152 86 = some (.goto 4) ∧ zf 152 89 = some (.iconst 0) ∧ zf 152 90 = some (.istore 5) ∧ zf 152 92 = some (.iload 5) ∧ zf 152 94 = some (.ifCond .eq 14) ∧ zf 152 97 = some (.iload_n 3) ∧ zf 152 98 = some (.sipush 150) ∧ zf 152 101 = some (.if_icmp .ne 7) ∧ zf 152 104 = some (.iconst (-1)) ∧ zf 152 105 = some (.goto 9) ∧ zf 152 108 = some (.aload_n 0) ∧ zf 152 109 = some (.iload_n 1) ∧ zf 152 110 = some (.i2l) ∧ zf 152 111 = some (.invokevirtual 235) := by decide +kernel
theorem f152_82 : zf 152 82 = some (.ifCond .gt 7) := cf152_82.1
theorem f152_85 : zf 152 85 = some (.iconst 1) := cf152_82.2.1
theorem f152_86 : zf 152 86 = some (.goto 4) := cf152_82.2.2.1
theorem f152_89 : zf 152 89 = some (.iconst 0) := cf152_82.2.2.2.1
theorem f152_90 : zf 152 90 = some (.istore 5) := cf152_82.2.2.2.2.1
theorem f152_92 : zf 152 92 = some (.iload 5) := cf152_82.2.2.2.2.2.1
theorem f152_94 : zf 152 94 = some (.ifCond .eq 14) := cf152_82.2.2.2.2.2.2.1
theorem f152_97 : zf 152 97 = some (.iload_n 3) := cf152_82.2.2.2.2.2.2.2.1
theorem f152_98 : zf 152 98 = some (.sipush 150) := cf152_82.2.2.2.2.2.2.2.2.1
theorem f152_101 : zf 152 101 = some (.if_icmp .ne 7) := cf152_82.2.2.2.2.2.2.2.2.2.1
theorem f152_104 : zf 152 104 = some (.iconst (-1)) := cf152_82.2.2.2.2.2.2.2.2.2.2.1
theorem f152_105 : zf 152 105 = some (.goto 9) := cf152_82.2.2.2.2.2.2.2.2.2.2.2.1
theorem f152_108 : zf 152 108 = some (.aload_n 0) := cf152_82.2.2.2.2.2.2.2.2.2.2.2.2.1
theorem f152_109 : zf 152 109 = some (.iload_n 1) := cf152_82.2.2.2.2.2.2.2.2.2.2.2.2.2.1
theorem f152_110 : zf 152 110 = some (.i2l) := cf152_82.2.2.2.2.2.2.2.2.2.2.2.2.2.2.1
theorem f152_111 : zf 152 111 = some (.invokevirtual 235) := cf152_82.2.2.2.2.2.2.2.2.2.2.2.2.2.2.2
theorem cf152_114 : zf 152 114 = some (.istore 4) ∧ zf 152 116 = some (.iinc 3 1) ∧ zf 152 119 = some (.goto (-81)) ∧ zf 152 122 = some (.iload 4) ∧ zf 152 124 = some (.iconst (-1)) ∧ zf 152 125 = some (.if_icmp .ne 9) ∧ zf 152 128 = some (.aload_n 0) ∧ zf 152 129 = some (.iconst 4) ∧ zf 152 130 = some (.invokevirtual 209) ∧ zf 152 133 = some (.ireturn) ∧ zf 152 134 = some (.aload_n 0) ∧ zf 152 135 = some (.invokevirtual 228) ∧ zf 152 138 = some (.iload_n 1) ∧ zf 152 139 = some (.i2l) ∧ zf 152 140 = some (.aload_n 0) ∧ zf 152 141 = some (.getfield 40) := by decide +kernel
theorem f152_114 : zf 152 114 = some (.istore 4) := cf152_114.1
theorem f152_116 : zf 152 116 = some (.iinc 3 1) := cf152_114.2.1
theorem f152_119 : zf 152 119 = some (.goto (-81)) := cf152_114.2.2.1
theorem f152_122 : zf 152 122 = some (.iload 4) := cf152_114.2.2.2.1
theorem f152_124 : zf 152 124 = some (.iconst (-1)) := cf152_114.2.2.2.2.1
theorem f152_125 : zf 152 125 = some (.if_icmp .ne 9) := cf152_114.2.2.2.2.2.1
theorem f152_128 : zf 152 128 = some (.aload_n 0) := cf152_114.2.2.2.2.2.2.1
theorem f152_129 : zf 152 129 = some (.iconst 4) := cf152_114.2.2.2.2.2.2.2.1
theorem f152_130 : zf 152 130 = some (.invokevirtual 209) := cf152_114.2.2.2.2.2.2.2.2.1
theorem f152_133 : zf 152 133 = some (.ireturn) := cf152_114.2.2.2.2.2.2.2.2.2.1
theorem f152_134 : zf 152 134 = some (.aload_n 0) := cf152_114.2.2.2.2.2.2.2.2.2.2.1
theorem f152_135 : zf 152 135 = some (.invokevirtual 228) := cf152_114.2.2.2.2.2.2.2.2.2.2.2.1
theorem f152_138 : zf 152 138 = some (.iload_n 1) := cf152_114.2.2.2.2.2.2.2.2.2.2.2.2.1
theorem f152_139 : zf 152 139 = some (.i2l) := cf152_114.2.2.2.2.2.2.2.2.2.2.2.2.2.1
theorem f152_140 : zf 152 140 = some (.aload_n 0) := cf152_114.2.2.2.2.2.2.2.2.2.2.2.2.2.2.1
theorem f152_141 : zf 152 141 = some (.getfield 40) := cf152_114.2.2.2.2.2.2.2.2.2.2.2.2.2.2.2
theorem cf152_144 : zf 152 144 = some (.lmul) ∧ zf 152 145 = some (.aload_n 0) ∧ zf 152 146 = some (.getfield 172) ∧ zf 152 149 = some (.lcmp) ∧ zf 152 150 = some (.ifCond .le 24) ∧ zf 152 153 = some (.aload_n 0) ∧ zf 152 154 = some (.iload_n 1) ∧ zf 152 155 = some (.i2l) ∧ zf 152 156 = some (.aload_n 0) ∧ zf 152 157 = some (.getfield 40) ∧ zf 152 160 = some (.lmul) ∧ zf 152 161 = some (.aload_n 0) ∧ zf 152 162 = some (.getfield 172) ∧ zf 152 165 = some (.lsub) ∧ zf 152 166 = some (.aload_n 0) ∧ zf 152 167 = some (.getfield 40) := by decide +kernel
theorem f152_144 : zf 152 144 = some (.lmul) := cf152_144.1
theorem f152_145 : zf 152 145 = some (.aload_n 0) := cf152_144.2.1
theorem f152_146 : zf 152 146 = some (.getfield 172) := cf152_144.2.2.1
theorem f152_149 : zf 152 149 = some (.lcmp) := cf152_144.2.2.2.1
theorem f152_150 : zf 152 150 = some (.ifCond .le 24) := cf152_144.2.2.2.2.1
theorem f152_153 : zf 152 153 = some (.aload_n 0) := cf152_144.2.2.2.2.2.1
theorem f152_154 : zf 152 154 = some (.iload_n 1) := cf152_144.2.2.2.2.2.2.1
theorem f152_155 : zf 152 155 = some (.i2l) := cf152_144.2.2.2.2.2.2.2.1
theorem f152_156 : zf 152 156 = some (.aload_n 0) := cf152_144.2.2.2.2.2.2.2.2.1
theorem f152_157 : zf 152 157 = some (.getfield 40) := cf152_144.2.2.2.2.2.2.2.2.2.1
theorem f152_160 : zf 152 160 = some (.lmul) := cf152_144.2.2.2.2.2.2.2.2.2.2.1
theorem f152_161 : zf 152 161 = some (.aload_n 0) := cf152_144.2.2.2.2.2.2.2.2.2.2.2.1
theorem f152_162 : zf 152 162 = some (.getfield 172) := cf152_144.2.2.2.2.2.2.2.2.2.2.2.2.1
theorem f152_165 : zf 152 165 = some (.lsub) := cf152_144.2.2.2.2.2.2.2.2.2.2.2.2.2.1
theorem f152_166 : zf 152 166 = some (.aload_n 0) := cf152_144.2.2.2.2.2.2.2.2.2.2.2.2.2.2.1
theorem f152_167 : zf 152 167 = some (.getfield 40) := cf152_144.2.2.2.2.2.2.2.2.2.2.2.2.2.2.2
theorem cf152_170 : zf 152 170 = some (.invokevirtual 231) ∧ zf 152 173 = some (.pop) ∧ zf 152 174 = some (.aload_n 0) ∧ zf 152 175 = some (.aload_n 0) ∧ zf 152 176 = some (.getfield 183) ∧ zf 152 179 = some (.iload_n 2) ∧ zf 152 180 = some (.isub) ∧ zf 152 181 = some (.invokevirtual 205) ∧ zf 152 184 = some (.ireturn) := by decide +kernel
theorem f152_170 : zf 152 170 = some (.invokevirtual 231) := cf152_170.1
theorem f152_173 : zf 152 173 = some (.pop) := cf152_170.2.1
theorem f152_174 : zf 152 174 = some (.aload_n 0) := cf152_170.2.2.1
theorem f152_175 : zf 152 175 = some (.aload_n 0) := cf152_170.2.2.2.1
theorem f152_176 : zf 152 176 = some (.getfield 183) := cf152_170.2.2.2.2.1
theorem f152_179 : zf 152 179 = some (.iload_n 2) := cf152_170.2.2.2.2.2.1
theorem f152_180 : zf 152 180 = some (.isub) := cf152_170.2.2.2.2.2.2.1
theorem f152_181 : zf 152 181 = some (.invokevirtual 205) := cf152_170.2.2.2.2.2.2.2.1
theorem f152_184 : zf 152 184 = some (.ireturn) := cf152_170.2.2.2.2.2.2.2.2
theorem cf153_0 : zf 153 0 = some (.lload_n 0) ∧ zf 153 1 = some (.lload_n 2) ∧ zf 153 2 = some (.invokestatic 164) ∧ zf 153 5 = some (.lstore 5) ∧ zf 153 7 = some (.iload 4) ∧ zf 153 9 = some (.ifCond .ne 10) ∧ zf 153 12 = some (.lload_n 0) ∧ zf 153 13 = some (.lload 5) ∧ zf 153 15 = some (.ldiv) ∧ zf 153 16 = some (.goto 7) ∧ zf 153 19 = some (.lload_n 2) ∧ zf 153 20 = some (.lload 5) ∧ zf 153 22 = some (.ldiv) ∧ zf 153 23 = some (.lreturn) := by decide +kernel
theorem f153_0 : zf 153 0 = some (.lload_n 0) := cf153_0.1
theorem f153_1 : zf 153 1 = some (.lload_n 2) := cf153_0.2.1
theorem f153_2 : zf 153 2 = some (.invokestatic 164) := cf153_0.2.2.1
theorem f153_5 : zf 153 5 = some (.lstore 5) := cf153_0.2.2.2.1
theorem f153_7 : zf 153 7 = some (.iload 4) := cf153_0.2.2.2.2.1
theorem f153_9 : zf 153 9 = some (.ifCond .ne 10) := cf153_0.2.2.2.2.2.1
theorem f153_12 : zf 153 12 = some (.lload_n 0) := cf153_0.2.2.2.2.2.2.1
theorem f153_13 : zf 153 13 = some (.lload 5) := cf153_0.2.2.2.2.2.2.2.1
theorem f153_15 : zf 153 15 = some (.ldiv) := cf153_0.2.2.2.2.2.2.2.2.1
theorem f153_16 : zf 153 16 = some (.goto 7) := cf153_0.2.2.2.2.2.2.2.2.2.1
theorem f153_19 : zf 153 19 = some (.lload_n 2) := cf153_0.2.2.2.2.2.2.2.2.2.2.1
theorem f153_20 : zf 153 20 = some (.lload 5) := cf153_0.2.2.2.2.2.2.2.2.2.2.2.1
theorem f153_22 : zf 153 22 = some (.ldiv) := cf153_0.2.2.2.2.2.2.2.2.2.2.2.2.1
theorem f153_23 : zf 153 23 = some (.lreturn) := cf153_0.2.2.2.2.2.2.2.2.2.2.2.2.2
theorem cf154_0 : zf 154 0 = some (.iload_n 1) ∧ zf 154 1 = some (.ifCond .eq 8) ∧ zf 154 4 = some (.iload_n 1) ∧ zf 154 5 = some (.iconst 1) ∧ zf 154 6 = some (.if_icmp .ne 19) ∧ zf 154 9 = some (.aload_n 0) ∧ zf 154 10 = some (.getfield 172) ∧ zf 154 13 = some (.aload_n 0) ∧ zf 154 14 = some (.getfield 40) ∧ zf 154 17 = some (.iload_n 1) ∧ zf 154 18 = some (.invokestatic 239) ∧ zf 154 21 = some (.l2i) ∧ zf 154 22 = some (.goto 17) ∧ zf 154 25 = some (.iload_n 1) ∧ zf 154 26 = some (.iconst 2) ∧ zf 154 27 = some (.if_icmp .ne 11) := by decide +kernel
theorem f154_0 : zf 154 0 = some (.iload_n 1) := cf154_0.1
theorem f154_1 : zf 154 1 = some (.ifCond .eq 8) := cf154_0.2.1
theorem f154_4 : zf 154 4 = some (.iload_n 1) := cf154_0.2.2.1
theorem f154_5 : zf 154 5 = some (.iconst 1) := cf154_0.2.2.2.1
theorem f154_6 : zf 154 6 = some (.if_icmp .ne 19) := cf154_0.2.2.2.2.1
theorem f154_9 : zf 154 9 = some (.aload_n 0) := cf154_0.2.2.2.2.2.1
theorem f154_10 : zf 154 10 = some (.getfield 172) := cf154_0.2.2.2.2.2.2.1
theorem f154_13 : zf 154 13 = some (.aload_n 0) := cf154_0.2.2.2.2.2.2.2.1
theorem f154_14 : zf 154 14 = some (.getfield 40) := cf154_0.2.2.2.2.2.2.2.2.1
theorem f154_17 : zf 154 17 = some (.iload_n 1) := cf154_0.2.2.2.2.2.2.2.2.2.1
theorem f154_18 : zf 154 18 = some (.invokestatic 239) := cf154_0.2.2.2.2.2.2.2.2.2.2.1
theorem f154_21 : zf 154 21 = some (.l2i) := cf154_0.2.2.2.2.2.2.2.2.2.2.2.1
theorem f154_22 : zf 154 22 = some (.goto 17) := cf154_0.2.2.2.2.2.2.2.2.2.2.2.2.1
theorem f154_25 : zf 154 25 = some (.iload_n 1) := cf154_0.2.2.2.2.2.2.2.2.2.2.2.2.2.1
theorem f154_26 : zf 154 26 = some (.iconst 2) := cf154_0.2.2.2.2.2.2.2.2.2.2.2.2.2.2.1
theorem f154_27 : zf 154 27 = some (.if_icmp .ne 11) := cf154_0.2.2.2.2.2.2.2.2.2.2.2.2.2.2.2
theorem cf154_30 : zf 154 30 = some (.aload_n 0) ∧ zf 154 31 = some (.getfield 40) ∧ zf 154 34 = some (.l2i) ∧ zf 154 35 = some (.goto 4) ∧ zf 154 38 = some (.iconst (-1)) ∧ zf 154 39 = some (.ireturn) := by decide +kernel
theorem f154_30 : zf 154 30 = some (.aload_n 0) := cf154_30.1
theorem f154_31 : zf 154 31 = some (.getfield 40) := cf154_30.2.1
theorem f154_34 : zf 154 34 = some (.l2i) := cf154_30.2.2.1
theorem f154_35 : zf 154 35 = some (.goto 4) := cf154_30.2.2.2.1
theorem f154_38 : zf 154 38 = some (.iconst (-1)) := cf154_30.2.2.2.2.1
theorem f154_39 : zf 154 39 = some (.ireturn) := cf154_30.2.2.2.2.2
theorem cf155_0 : zf 155 0 = some (.aload_n 0) ∧ zf 155 1 = some (.invokevirtual 228) ∧ zf 155 4 = some (.aload_n 0) ∧ zf 155 5 = some (.getfield 142) ∧ zf 155 8 = some (.ifCond .ne 12) ∧ zf 155 11 = some (.iload_n 1) ∧ zf 155 12 = some (.iconst 0) ∧ zf 155 13 = some (.iconst 1) ∧ zf 155 14 = some (.invokestatic 117) ∧ zf 155 17 = some (.ifCond .ne 7) ∧ zf 155 20 = some (.ldc2_w 243) ∧ zf 155 23 = some (.lreturn) ∧ zf 155 24 = some (.aload_n 0) ∧ zf 155 25 = some (.getfield 40) ∧ zf 155 28 = some (.aload_n 0) ∧ zf 155 29 = some (.getfield 40) := by decide +kernel
theorem f155_0 : zf 155 0 = some (.aload_n 0) := cf155_0.1
theorem f155_1 : zf 155 1 = some (.invokevirtual 228) := cf155_0.2.1
theorem f155_4 : zf 155 4 = some (.aload_n 0) := cf155_0.2.2.1
theorem f155_5 : zf 155 5 = some (.getfield 142) := cf155_0.2.2.2.1
theorem f155_8 : zf 155 8 = some (.ifCond .ne 12) := cf155_0.2.2.2.2.1
theorem f155_11 : zf 155 11 = some (.iload_n 1) := cf155_0.2.2.2.2.2.1
theorem f155_12 : zf 155 12 = some (.iconst 0) := cf155_0.2.2.2.2.2.2.1
theorem f155_13 : zf 155 13 = some (.iconst 1) := cf155_0.2.2.2.2.2.2.2.1
theorem f155_14 : zf 155 14 = some (.invokestatic 117) := cf155_0.2.2.2.2.2.2.2.2.1
theorem f155_17 : zf 155 17 = some (.ifCond .ne 7) := cf155_0.2.2.2.2.2.2.2.2.2.1
theorem f155_20 : zf 155 20 = some (.ldc2_w 243) := cf155_0.2.2.2.2.2.2.2.2.2.2.1
theorem f155_23 : zf 155 23 = some (.lreturn) := cf155_0.2.2.2.2.2.2.2.2.2.2.2.1
theorem f155_24 : zf 155 24 = some (.aload_n 0) := cf155_0.2.2.2.2.2.2.2.2.2.2.2.2.1
theorem f155_25 : zf 155 25 = some (.getfield 40) := cf155_0.2.2.2.2.2.2.2.2.2.2.2.2.2.1
theorem f155_28 : zf 155 28 = some (.aload_n 0) := cf155_0.2.2.2.2.2.2.2.2.2.2.2.2.2.2.1
theorem f155_29 : zf 155 29 = some (.getfield 40) := cf155_0.2.2.2.2.2.2.2.2.2.2.2.2.2.2.2
theorem cf155_32 : zf 155 32 = some (.aload_n 0) ∧ zf 155 33 = some (.getfield 145) ∧ zf 155 36 = some (.invokestatic 164) ∧ zf 155 39 = some (.ldiv) ∧ zf 155 40 = some (.aload_n 0) ∧ zf 155 41 = some (.getfield 145) ∧ zf 155 44 = some (.lmul) ∧ zf 155 45 = some (.lstore_n 2) ∧ zf 155 46 = some (.aload_n 0) ∧ zf 155 47 = some (.getfield 172) ∧ zf 155 50 = some (.lload_n 2) ∧ zf 155 51 = some (.aload_n 0) ∧ zf 155 52 = some (.getfield 40) ∧ zf 155 55 = some (.ldiv) ∧ zf 155 56 = some (.lmul) ∧ zf 155 57 = some (.aload_n 0) := by decide +kernel
theorem f155_32 : zf 155 32 = some (.aload_n 0) := cf155_32.1
theorem f155_33 : zf 155 33 = some (.getfield 145) := cf155_32.2.1
theorem f155_36 : zf 155 36 = some (.invokestatic 164) := cf155_32.2.2.1
theorem f155_39 : zf 155 39 = some (.ldiv) := cf155_32.2.2.2.1
theorem f155_40 : zf 155 40 = some (.aload_n 0) := cf155_32.2.2.2.2.1
theorem f155_41 : zf 155 41 = some (.getfield 145) := cf155_32.2.2.2.2.2.1
theorem f155_44 : zf 155 44 = some (.lmul) := cf155_32.2.2.2.2.2.2.1
theorem f155_45 : zf 155 45 = some (.lstore_n 2) := cf155_32.2.2.2.2.2.2.2.1
theorem f155_46 : zf 155 46 = some (.aload_n 0) := cf155_32.2.2.2.2.2.2.2.2.1
theorem f155_47 : zf 155 47 = some (.getfield 172) := cf155_32.2.2.2.2.2.2.2.2.2.1
theorem f155_50 : zf 155 50 = some (.lload_n 2) := cf155_32.2.2.2.2.2.2.2.2.2.2.1
theorem f155_51 : zf 155 51 = some (.aload_n 0) := cf155_32.2.2.2.2.2.2.2.2.2.2.2.1
theorem f155_52 : zf 155 52 = some (.getfield 40) := cf155_32.2.2.2.2.2.2.2.2.2.2.2.2.1
theorem f155_55 : zf 155 55 = some (.ldiv) := cf155_32.2.2.2.2.2.2.2.2.2.2.2.2.2.1
theorem f155_56 : zf 155 56 = some (.lmul) := cf155_32.2.2.2.2.2.2.2.2.2.2.2.2.2.2.1
theorem f155_57 : zf 155 57 = some (.aload_n 0) := cf155_32.2.2.2.2.2.2.2.2.2.2.2.2.2.2.2
theorem cf155_58 : zf 155 58 = some (.getfield 148) ∧ zf 155 61 = some (.lload_n 2) ∧ zf 155 62 = some (.aload_n 0) ∧ zf 155 63 = some (.getfield 145) ∧ zf 155 66 = some (.ldiv) ∧ zf 155 67 = some (.lmul) ∧ zf 155 68 = some (.ladd) ∧ zf 155 69 = some (.lload_n 2) ∧ zf 155 70 = some (.iload_n 1) ∧ zf 155 71 = some (.invokestatic 239) ∧ zf 155 74 = some (.lreturn) := by decide +kernel
theorem f155_58 : zf 155 58 = some (.getfield 148) := cf155_58.1
theorem f155_61 : zf 155 61 = some (.lload_n 2) := cf155_58.2.1
theorem f155_62 : zf 155 62 = some (.aload_n 0) := cf155_58.2.2.1
theorem f155_63 : zf 155 63 = some (.getfield 145) := cf155_58.2.2.2.1
theorem f155_66 : zf 155 66 = some (.ldiv) := cf155_58.2.2.2.2.1
theorem f155_67 : zf 155 67 = some (.lmul) := cf155_58.2.2.2.2.2.1
theorem f155_68 : zf 155 68 = some (.ladd) := cf155_58.2.2.2.2.2.2.1
theorem f155_69 : zf 155 69 = some (.lload_n 2) := cf155_58.2.2.2.2.2.2.2.1
theorem f155_70 : zf 155 70 = some (.iload_n 1) := cf155_58.2.2.2.2.2.2.2.2.1
theorem f155_71 : zf 155 71 = some (.invokestatic 239) := cf155_58.2.2.2.2.2.2.2.2.2.1
theorem f155_74 : zf 155 74 = some (.lreturn) := cf155_58.2.2.2.2.2.2.2.2.2.2
theorem cf156_0 : zf 156 0 = some (.aload_n 0) ∧ zf 156 1 = some (.iload_n 1) ∧ zf 156 2 = some (.invokevirtual 215) ∧ zf 156 5 = some (.ifCond .eq 30) ∧ zf 156 8 = some (.iload_n 2) ∧ zf 156 9 = some (.iconst 0) ∧ zf 156 10 = some (.iconst 1) ∧ zf 156 11 = some (.invokestatic 117) ∧ zf 156 14 = some (.ifCond .eq 21) ∧ zf 156 17 = some (.aload_n 0) ∧ zf 156 18 = some (.getfield 44) ∧ zf 156 21 = some (.iload_n 1) ∧ zf 156 22 = some (.laload) ∧ zf 156 23 = some (.aload_n 0) ∧ zf 156 24 = some (.getfield 40) ∧ zf 156 27 = some (.iload_n 2) := by decide +kernel
theorem f156_0 : zf 156 0 = some (.aload_n 0) := cf156_0.1
theorem f156_1 : zf 156 1 = some (.iload_n 1) := cf156_0.2.1
theorem f156_2 : zf 156 2 = some (.invokevirtual 215) := cf156_0.2.2.1
theorem f156_5 : zf 156 5 = some (.ifCond .eq 30) := cf156_0.2.2.2.1
theorem f156_8 : zf 156 8 = some (.iload_n 2) := cf156_0.2.2.2.2.1
theorem f156_9 : zf 156 9 = some (.iconst 0) := cf156_0.2.2.2.2.2.1
theorem f156_10 : zf 156 10 = some (.iconst 1) := cf156_0.2.2.2.2.2.2.1
theorem f156_11 : zf 156 11 = some (.invokestatic 117) := cf156_0.2.2.2.2.2.2.2.1
theorem f156_14 : zf 156 14 = some (.ifCond .eq 21) := cf156_0.2.2.2.2.2.2.2.2.1
theorem f156_17 : zf 156 17 = some (.aload_n 0) := cf156_0.2.2.2.2.2.2.2.2.2.1
theorem f156_18 : zf 156 18 = some (.getfield 44) := cf156_0.2.2.2.2.2.2.2.2.2.2.1
theorem f156_21 : zf 156 21 = some (.iload_n 1) := cf156_0.2.2.2.2.2.2.2.2.2.2.2.1
theorem f156_22 : zf 156 22 = some (.laload) := cf156_0.2.2.2.2.2.2.2.2.2.2.2.2.1
theorem f156_23 : zf 156 23 = some (.aload_n 0) := cf156_0.2.2.2.2.2.2.2.2.2.2.2.2.2.1
theorem f156_24 : zf 156 24 = some (.getfield 40) := cf156_0.2.2.2.2.2.2.2.2.2.2.2.2.2.2.1
theorem f156_27 : zf 156 27 = some (.iload_n 2) := cf156_0.2.2.2.2.2.2.2.2.2.2.2.2.2.2.2
theorem cf156_28 : zf 156 28 = some (.invokestatic 239) ∧ zf 156 31 = some (.l2i) ∧ zf 156 32 = some (.goto 4) ∧ zf 156 35 = some (.iconst (-1)) ∧ zf 156 36 = some (.ireturn) := by decide +kernel
theorem f156_28 : zf 156 28 = some (.invokestatic 239) := cf156_28.1
theorem f156_31 : zf 156 31 = some (.l2i) := cf156_28.2.1
theorem f156_32 : zf 156 32 = some (.goto 4) := cf156_28.2.2.1
theorem f156_35 : zf 156 35 = some (.iconst (-1)) := cf156_28.2.2.2.1
theorem f156_36 : zf 156 36 = some (.ireturn) := cf156_28.2.2.2.2
theorem cf157_0 : zf 157 0 = some (.aload_n 0) ∧ zf 157 1 = some (.invokevirtual 151) ∧ zf 157 4 = some (.aload_n 0) ∧ zf 157 5 = some (.iload_n 1) ∧ zf 157 6 = some (.invokevirtual 215) ∧ zf 157 9 = some (.ifCond .eq 12) ∧ zf 157 12 = some (.aload_n 0) ∧ zf 157 13 = some (.getfield 80) ∧ zf 157 16 = some (.iload_n 1) ∧ zf 157 17 = some (.iaload) ∧ zf 157 18 = some (.goto 5) ∧ zf 157 21 = some (.ldc 245) ∧ zf 157 23 = some (.ireturn) := by decide +kernel
theorem f157_0 : zf 157 0 = some (.aload_n 0) := cf157_0.1
theorem f157_1 : zf 157 1 = some (.invokevirtual 151) := cf157_0.2.1
theorem f157_4 : zf 157 4 = some (.aload_n 0) := cf157_0.2.2.1
theorem f157_5 : zf 157 5 = some (.iload_n 1) := cf157_0.2.2.2.1
theorem f157_6 : zf 157 6 = some (.invokevirtual 215) := cf157_0.2.2.2.2.1
theorem f157_9 : zf 157 9 = some (.ifCond .eq 12) := cf157_0.2.2.2.2.2.1
theorem f157_12 : zf 157 12 = some (.aload_n 0) := cf157_0.2.2.2.2.2.2.1
theorem f157_13 : zf 157 13 = some (.getfield 80) := cf157_0.2.2.2.2.2.2.2.1
theorem f157_16 : zf 157 16 = some (.iload_n 1) := cf157_0.2.2.2.2.2.2.2.2.1
theorem f157_17 : zf 157 17 = some (.iaload) := cf157_0.2.2.2.2.2.2.2.2.2.1
theorem f157_18 : zf 157 18 = some (.goto 5) := cf157_0.2.2.2.2.2.2.2.2.2.2.1
theorem f157_21 : zf 157 21 = some (.ldc 245) := cf157_0.2.2.2.2.2.2.2.2.2.2.2.1
theorem f157_23 : zf 157 23 = some (.ireturn) := cf157_0.2.2.2.2.2.2.2.2.2.2.2.2
theorem cf158_0 : zf 158 0 = some (.aload_n 0) ∧ zf 158 1 = some (.invokevirtual 151) ∧ zf 158 4 = some (.aload_n 0) ∧ zf 158 5 = some (.iload_n 1) ∧ zf 158 6 = some (.invokevirtual 218) ∧ zf 158 9 = some (.ifCond .eq 12) ∧ zf 158 12 = some (.aload_n 0) ∧ zf 158 13 = some (.getfield 86) ∧ zf 158 16 = some (.iload_n 1) ∧ zf 158 17 = some (.iaload) ∧ zf 158 18 = some (.goto 4) ∧ zf 158 21 = some (.iconst (-1)) ∧ zf 158 22 = some (.ireturn) := by decide +kernel
theorem f158_0 : zf 158 0 = some (.aload_n 0) := cf158_0.1
theorem f158_1 : zf 158 1 = some (.invokevirtual 151) := cf158_0.2.1
theorem f158_4 : zf 158 4 = some (.aload_n 0) := cf158_0.2.2.1
theorem f158_5 : zf 158 5 = some (.iload_n 1) := cf158_0.2.2.2.1
theorem f158_6 : zf 158 6 = some (.invokevirtual 218) := cf158_0.2.2.2.2.1
theorem f158_9 : zf 158 9 = some (.ifCond .eq 12) := cf158_0.2.2.2.2.2.1
theorem f158_12 : zf 158 12 = some (.aload_n 0) := cf158_0.2.2.2.2.2.2.1
theorem f158_13 : zf 158 13 = some (.getfield 86) := cf158_0.2.2.2.2.2.2.2.1
theorem f158_16 : zf 158 16 = some (.iload_n 1) := cf158_0.2.2.2.2.2.2.2.2.1
theorem f158_17 : zf 158 17 = some (.iaload) := cf158_0.2.2.2.2.2.2.2.2.2.1
theorem f158_18 : zf 158 18 = some (.goto 4) := cf158_0.2.2.2.2.2.2.2.2.2.2.1
theorem f158_21 : zf 158 21 = some (.iconst (-1)) := cf158_0.2.2.2.2.2.2.2.2.2.2.2.1
theorem f158_22 : zf 158 22 = some (.ireturn) := cf158_0.2.2.2.2.2.2.2.2.2.2.2.2
theorem cf159_0 : zf 159 0 = some (.aload_n 0) ∧ zf 159 1 = some (.invokevirtual 151) ∧ zf 159 4 = some (.aload_n 0) ∧ zf 159 5 = some (.iload_n 1) ∧ zf 159 6 = some (.invokevirtual 215) ∧ zf 159 9 = some (.ifCond .eq 12) ∧ zf 159 12 = some (.aload_n 0) ∧ zf 159 13 = some (.getfield 83) ∧ zf 159 16 = some (.iload_n 1) ∧ zf 159 17 = some (.iaload) ∧ zf 159 18 = some (.goto 4) ∧ zf 159 21 = some (.iconst (-1)) ∧ zf 159 22 = some (.ireturn) := by decide +kernel
theorem f159_0 : zf 159 0 = some (.aload_n 0) := cf159_0.1
theorem f159_1 : zf 159 1 = some (.invokevirtual 151) := cf159_0.2.1
theorem f159_4 : zf 159 4 = some (.aload_n 0) := cf159_0.2.2.1
theorem f159_5 : zf 159 5 = some (.iload_n 1) := cf159_0.2.2.2.1
theorem f159_6 : zf 159 6 = some (.invokevirtual 215) := cf159_0.2.2.2.2.1
theorem f159_9 : zf 159 9 = some (.ifCond .eq 12) := cf159_0.2.2.2.2.2.1
theorem f159_12 : zf 159 12 = some (.aload_n 0) := cf159_0.2.2.2.2.2.2.1
theorem f159_13 : zf 159 13 = some (.getfield 83) := cf159_0.2.2.2.2.2.2.2.1
theorem f159_16 : zf 159 16 = some (.iload_n 1) := cf159_0.2.2.2.2.2.2.2.2.1
theorem f159_17 : zf 159 17 = some (.iaload) := cf159_0.2.2.2.2.2.2.2.2.2.1
theorem f159_18 : zf 159 18 = some (.goto 4) := cf159_0.2.2.2.2.2.2.2.2.2.2.1
theorem f159_21 : zf 159 21 = some (.iconst (-1)) := cf159_0.2.2.2.2.2.2.2.2.2.2.2.1
theorem f159_22 : zf 159 22 = some (.ireturn) := cf159_0.2.2.2.2.2.2.2.2.2.2.2.2
theorem cf160_0 : zf 160 0 = some (.aload_n 0) ∧ zf 160 1 = some (.iload_n 1) ∧ zf 160 2 = some (.invokevirtual 215) ∧ zf 160 5 = some (.ifCond .ne 5) ∧ zf 160 8 = some (.iconst (-1)) ∧ zf 160 9 = some (.ireturn) ∧ zf 160 10 = some (.aload_n 0) ∧ zf 160 11 = some (.getfield 7) ∧ zf 160 14 = some (.iload_n 1) ∧ zf 160 15 = some (.iaload) ∧ zf 160 16 = some (.istore_n 3) ∧ zf 160 17 = some (.iload_n 2) ∧ zf 160 18 = some (.tableswitch 159 0 8 #[50, 52, 59, 79, 98, 105, 112, 119, 143]) ∧ zf 160 68 = some (.iload_n 3) ∧ zf 160 69 = some (.ireturn) ∧ zf 160 70 = some (.aload_n 0) := by decide +kernel
theorem f160_0 : zf 160 0 = some (.aload_n 0) := cf160_0.1
theorem f160_1 : zf 160 1 = some (.iload_n 1) := cf160_0.2.1
theorem f160_2 : zf 160 2 = some (.invokevirtual 215) := cf160_0.2.2.1
theorem f160_5 : zf 160 5 = some (.ifCond .ne 5) := cf160_0.2.2.2.1
theorem f160_8 : zf 160 8 = some (.iconst (-1)) := cf160_0.2.2.2.2.1
theorem f160_9 : zf 160 9 = some (.ireturn) := cf160_0.2.2.2.2.2.1
theorem f160_10 : zf 160 10 = some (.aload_n 0) := cf160_0.2.2.2.2.2.2.1
theorem f160_11 : zf 160 11 = some (.getfield 7) := cf160_0.2.2.2.2.2.2.2.1
theorem f160_14 : zf 160 14 = some (.iload_n 1) := cf160_0.2.2.2.2.2.2.2.2.1
theorem f160_15 : zf 160 15 = some (.iaload) := cf160_0.2.2.2.2.2.2.2.2.2.1
theorem f160_16 : zf 160 16 = some (.istore_n 3) := cf160_0.2.2.2.2.2.2.2.2.2.2.1
theorem f160_17 : zf 160 17 = some (.iload_n 2) := cf160_0.2.2.2.2.2.2.2.2.2.2.2.1
theorem f160_18 : zf 160 18 = some (.tableswitch 159 0 8 #[50, 52, 59, 79, 98, 105, 112, 119, 143]) := cf160_0.2.2.2.2.2.2.2.2.2.2.2.2.1
theorem f160_68 : zf 160 68 = some (.iload_n 3) := cf160_0.2.2.2.2.2.2.2.2.2.2.2.2.2.1
theorem f160_69 : zf 160 69 = some (.ireturn) := cf160_0.2.2.2.2.2.2.2.2.2.2.2.2.2.2.1
theorem f160_70 : zf 160 70 = some (.aload_n 0) := cf160_0.2.2.2.2.2.2.2.2.2.2.2.2.2.2.2
theorem cf160_71 : zf 160 71 = some (.getfield 13) ∧ zf 160 74 = some (.iload_n 1) ∧ zf 160 75 = some (.iaload) ∧ zf 160 76 = some (.ireturn) ∧ zf 160 77 = some (.iload_n 3) ∧ zf 160 78 = some (.ifCond .eq 8) ∧ zf 160 81 = some (.iload_n 3) ∧ zf 160 82 = some (.iconst 2) ∧ zf 160 83 = some (.if_icmp .ne 7) ∧ zf 160 86 = some (.iconst (-1)) ∧ zf 160 87 = some (.goto 9) ∧ zf 160 90 = some (.aload_n 0) ∧ zf 160 91 = some (.getfield 16) ∧ zf 160 94 = some (.iload_n 1) ∧ zf 160 95 = some (.iaload) ∧ zf 160 96 = some (.ireturn) := by decide +kernel
theorem f160_71 : zf 160 71 = some (.getfield 13) := cf160_71.1
theorem f160_74 : zf 160 74 = some (.iload_n 1) := cf160_71.2.1
theorem f160_75 : zf 160 75 = some (.iaload) := cf160_71.2.2.1
theorem f160_76 : zf 160 76 = some (.ireturn) := cf160_71.2.2.2.1
theorem f160_77 : zf 160 77 = some (.iload_n 3) := cf160_71.2.2.2.2.1
theorem f160_78 : zf 160 78 = some (.ifCond .eq 8) := cf160_71.2.2.2.2.2.1
theorem f160_81 : zf 160 81 = some (.iload_n 3) := cf160_71.2.2.2.2.2.2.1
theorem f160_82 : zf 160 82 = some (.iconst 2) := cf160_71.2.2.2.2.2.2.2.1
theorem f160_83 : zf 160 83 = some (.if_icmp .ne 7) := cf160_71.2.2.2.2.2.2.2.2.1
theorem f160_86 : zf 160 86 = some (.iconst (-1)) := cf160_71.2.2.2.2.2.2.2.2.2.1
theorem f160_87 : zf 160 87 = some (.goto 9) := cf160_71.2.2.2.2.2.2.2.2.2.2.1
theorem f160_90 : zf 160 90 = some (.aload_n 0) := cf160_71.2.2.2.2.2.2.2.2.2.2.2.1
theorem f160_91 : zf 160 91 = some (.getfield 16) := cf160_71.2.2.2.2.2.2.2.2.2.2.2.2.1
theorem f160_94 : zf 160 94 = some (.iload_n 1) := cf160_71.2.2.2.2.2.2.2.2.2.2.2.2.2.1
theorem f160_95 : zf 160 95 = some (.iaload) := cf160_71.2.2.2.2.2.2.2.2.2.2.2.2.2.2.1
theorem f160_96 : zf 160 96 = some (.ireturn) := cf160_71.2.2.2.2.2.2.2.2.2.2.2.2.2.2.2
theorem cf160_97 : zf 160 97 = some (.aload_n 0) ∧ zf 160 98 = some (.iload_n 1) ∧ zf 160 99 = some (.invokevirtual 158) ∧ zf 160 102 = some (.ifCond .eq 12) ∧ zf 160 105 = some (.aload_n 0) ∧ zf 160 106 = some (.getfield 19) ∧ zf 160 109 = some (.iload_n 1) ∧ zf 160 110 = some (.iaload) ∧ zf 160 111 = some (.goto 4) ∧ zf 160 114 = some (.iconst (-1)) ∧ zf 160 115 = some (.ireturn) ∧ zf 160 116 = some (.aload_n 0) ∧ zf 160 117 = some (.getfield 22) ∧ zf 160 120 = some (.iload_n 1) ∧ zf 160 121 = some (.iaload) ∧ zf 160 122 = some (.ireturn) := by decide +kernel
theorem f160_97 : zf 160 97 = some (.aload_n 0) := cf160_97.1
theorem f160_98 : zf 160 98 = some (.iload_n 1) := cf160_97.2.1
theorem f160_99 : zf 160 99 = some (.invokevirtual 158) := cf160_97.2.2.1
theorem f160_102 : zf 160 102 = some (.ifCond .eq 12) := cf160_97.2.2.2.1
theorem f160_105 : zf 160 105 = some (.aload_n 0) := cf160_97.2.2.2.2.1
theorem f160_106 : zf 160 106 = some (.getfield 19) := cf160_97.2.2.2.2.2.1
theorem f160_109 : zf 160 109 = some (.iload_n 1) := cf160_97.2.2.2.2.2.2.1
theorem f160_110 : zf 160 110 = some (.iaload) := cf160_97.2.2.2.2.2.2.2.1
theorem f160_111 : zf 160 111 = some (.goto 4) := cf160_97.2.2.2.2.2.2.2.2.1
theorem f160_114 : zf 160 114 = some (.iconst (-1)) := cf160_97.2.2.2.2.2.2.2.2.2.1
theorem f160_115 : zf 160 115 = some (.ireturn) := cf160_97.2.2.2.2.2.2.2.2.2.2.1
theorem f160_116 : zf 160 116 = some (.aload_n 0) := cf160_97.2.2.2.2.2.2.2.2.2.2.2.1
theorem f160_117 : zf 160 117 = some (.getfield 22) := cf160_97.2.2.2.2.2.2.2.2.2.2.2.2.1
theorem f160_120 : zf 160 120 = some (.iload_n 1) := cf160_97.2.2.2.2.2.2.2.2.2.2.2.2.2.1
theorem f160_121 : zf 160 121 = some (.iaload) := cf160_97.2.2.2.2.2.2.2.2.2.2.2.2.2.2.1
theorem f160_122 : zf 160 122 = some (.ireturn) := cf160_97.2.2.2.2.2.2.2.2.2.2.2.2.2.2.2
theorem cf160_123 : zf 160 123 = some (.aload_n 0) ∧ zf 160 124 = some (.getfield 25) ∧ zf 160 127 = some (.iload_n 1) ∧ zf 160 128 = some (.iaload) ∧ zf 160 129 = some (.ireturn) ∧ zf 160 130 = some (.aload_n 0) ∧ zf 160 131 = some (.getfield 28) ∧ zf 160 134 = some (.iload_n 1) ∧ zf 160 135 = some (.iaload) ∧ zf 160 136 = some (.ireturn) ∧ zf 160 137 = some (.iload_n 3) ∧ zf 160 138 = some (.iconst 1) ∧ zf 160 139 = some (.if_icmp .eq 7) ∧ zf 160 142 = some (.iconst (-1)) ∧ zf 160 143 = some (.goto 17) ∧ zf 160 146 = some (.aload_n 0) := by decide +kernel
theorem f160_123 : zf 160 123 = some (.aload_n 0) := cf160_123.1
theorem f160_124 : zf 160 124 = some (.getfield 25) := cf160_123.2.1
theorem f160_127 : zf 160 127 = some (.iload_n 1) := cf160_123.2.2.1
theorem f160_128 : zf 160 128 = some (.iaload) := cf160_123.2.2.2.1
theorem f160_129 : zf 160 129 = some (.ireturn) := cf160_123.2.2.2.2.1
theorem f160_130 : zf 160 130 = some (.aload_n 0) := cf160_123.2.2.2.2.2.1
theorem f160_131 : zf 160 131 = some (.getfield 28) := cf160_123.2.2.2.2.2.2.1
theorem f160_134 : zf 160 134 = some (.iload_n 1) := cf160_123.2.2.2.2.2.2.2.1
theorem f160_135 : zf 160 135 = some (.iaload) := cf160_123.2.2.2.2.2.2.2.2.1
theorem f160_136 : zf 160 136 = some (.ireturn) := cf160_123.2.2.2.2.2.2.2.2.2.1
theorem f160_137 : zf 160 137 = some (.iload_n 3) := cf160_123.2.2.2.2.2.2.2.2.2.2.1
theorem f160_138 : zf 160 138 = some (.iconst 1) := cf160_123.2.2.2.2.2.2.2.2.2.2.2.1
theorem f160_139 : zf 160 139 = some (.if_icmp .eq 7) := cf160_123.2.2.2.2.2.2.2.2.2.2.2.2.1
theorem f160_142 : zf 160 142 = some (.iconst (-1)) := cf160_123.2.2.2.2.2.2.2.2.2.2.2.2.2.1
theorem f160_143 : zf 160 143 = some (.goto 17) := cf160_123.2.2.2.2.2.2.2.2.2.2.2.2.2.2.1
theorem f160_146 : zf 160 146 = some (.aload_n 0) := cf160_123.2.2.2.2.2.2.2.2.2.2.2.2.2.2.2
theorem cf160_147 : zf 160 147 = some (.getfield 52) ∧ zf 160 150 = some (.iload_n 1) ∧ zf 160 151 = some (.baload) ∧ zf 160 152 = some (.ifCond .eq 7) ∧ zf 160 155 = some (.iconst 1) ∧ zf 160 156 = some (.goto 4) ∧ zf 160 159 = some (.iconst 0) ∧ zf 160 160 = some (.ireturn) ∧ zf 160 161 = some (.iload_n 3) ∧ zf 160 162 = some (.iconst 4) ∧ zf 160 163 = some (.if_icmp .eq 7) ∧ zf 160 166 = some (.iconst (-1)) ∧ zf 160 167 = some (.goto 9) ∧ zf 160 170 = some (.aload_n 0) ∧ zf 160 171 = some (.getfield 55) ∧ zf 160 174 = some (.iload_n 1) := by decide +kernel
theorem f160_147 : zf 160 147 = some (.getfield 52) := cf160_147.1
theorem f160_150 : zf 160 150 = some (.iload_n 1) := cf160_147.2.1
theorem f160_151 : zf 160 151 = some (.baload) := cf160_147.2.2.1
theorem f160_152 : zf 160 152 = some (.ifCond .eq 7) := cf160_147.2.2.2.1
theorem f160_155 : zf 160 155 = some (.iconst 1) := cf160_147.2.2.2.2.1
theorem f160_156 : zf 160 156 = some (.goto 4) := cf160_147.2.2.2.2.2.1
theorem f160_159 : zf 160 159 = some (.iconst 0) := cf160_147.2.2.2.2.2.2.1
theorem f160_160 : zf 160 160 = some (.ireturn) := cf160_147.2.2.2.2.2.2.2.1
theorem f160_161 : zf 160 161 = some (.iload_n 3) := cf160_147.2.2.2.2.2.2.2.2.1
theorem f160_162 : zf 160 162 = some (.iconst 4) := cf160_147.2.2.2.2.2.2.2.2.2.1
theorem f160_163 : zf 160 163 = some (.if_icmp .eq 7) := cf160_147.2.2.2.2.2.2.2.2.2.2.1
theorem f160_166 : zf 160 166 = some (.iconst (-1)) := cf160_147.2.2.2.2.2.2.2.2.2.2.2.1
theorem f160_167 : zf 160 167 = some (.goto 9) := cf160_147.2.2.2.2.2.2.2.2.2.2.2.2.1
theorem f160_170 : zf 160 170 = some (.aload_n 0) := cf160_147.2.2.2.2.2.2.2.2.2.2.2.2.2.1
theorem f160_171 : zf 160 171 = some (.getfield 55) := cf160_147.2.2.2.2.2.2.2.2.2.2.2.2.2.2.1
theorem f160_174 : zf 160 174 = some (.iload_n 1) := cf160_147.2.2.2.2.2.2.2.2.2.2.2.2.2.2.2
theorem cf160_175 : zf 160 175 = some (.iaload) ∧ zf 160 176 = some (.ireturn) ∧ zf 160 177 = some (.iconst (-1)) ∧ zf 160 178 = some (.ireturn) := by decide +kernel
theorem f160_175 : zf 160 175 = some (.iaload) := cf160_175.1
theorem f160_176 : zf 160 176 = some (.ireturn) := cf160_175.2.1
theorem f160_177 : zf 160 177 = some (.iconst (-1)) := cf160_175.2.2.1
theorem f160_178 : zf 160 178 = some (.ireturn) := cf160_175.2.2.2
theorem cf161_0 : zf 161 0 = some (.aload_n 0) ∧ zf 161 1 = some (.iload_n 1) ∧ zf 161 2 = some (.invokevirtual 218) ∧ zf 161 5 = some (.ifCond .ne 6) ∧ zf 161 8 = some (.bipush (-2)) ∧ zf 161 10 = some (.ireturn) ∧ zf 161 11 = some (.iload_n 2) ∧ zf 161 12 = some (.tableswitch 86 0 4 #[36, 43, 50, 57, 72]) ∧ zf 161 48 = some (.aload_n 0) ∧ zf 161 49 = some (.getfield 31) ∧ zf 161 52 = some (.iload_n 1) ∧ zf 161 53 = some (.iaload) ∧ zf 161 54 = some (.ireturn) ∧ zf 161 55 = some (.aload_n 0) ∧ zf 161 56 = some (.getfield 34) ∧ zf 161 59 = some (.iload_n 1) := by decide +kernel
theorem f161_0 : zf 161 0 = some (.aload_n 0) := cf161_0.1
theorem f161_1 : zf 161 1 = some (.iload_n 1) := cf161_0.2.1
theorem f161_2 : zf 161 2 = some (.invokevirtual 218) := cf161_0.2.2.1
theorem f161_5 : zf 161 5 = some (.ifCond .ne 6) := cf161_0.2.2.2.1
theorem f161_8 : zf 161 8 = some (.bipush (-2)) := cf161_0.2.2.2.2.1
theorem f161_10 : zf 161 10 = some (.ireturn) := cf161_0.2.2.2.2.2.1
theorem f161_11 : zf 161 11 = some (.iload_n 2) := cf161_0.2.2.2.2.2.2.1
theorem f161_12 : zf 161 12 = some (.tableswitch 86 0 4 #[36, 43, 50, 57, 72]) := cf161_0.2.2.2.2.2.2.2.1
theorem f161_48 : zf 161 48 = some (.aload_n 0) := cf161_0.2.2.2.2.2.2.2.2.1
theorem f161_49 : zf 161 49 = some (.getfield 31) := cf161_0.2.2.2.2.2.2.2.2.2.1
theorem f161_52 : zf 161 52 = some (.iload_n 1) := cf161_0.2.2.2.2.2.2.2.2.2.2.1
theorem f161_53 : zf 161 53 = some (.iaload) := cf161_0.2.2.2.2.2.2.2.2.2.2.2.1
theorem f161_54 : zf 161 54 = some (.ireturn) := cf161_0.2.2.2.2.2.2.2.2.2.2.2.2.1
theorem f161_55 : zf 161 55 = some (.aload_n 0) := cf161_0.2.2.2.2.2.2.2.2.2.2.2.2.2.1
theorem f161_56 : zf 161 56 = some (.getfield 34) := cf161_0.2.2.2.2.2.2.2.2.2.2.2.2.2.2.1
theorem f161_59 : zf 161 59 = some (.iload_n 1) := cf161_0.2.2.2.2.2.2.2.2.2.2.2.2.2.2.2
theorem cf161_60 : zf 161 60 = some (.iaload) ∧ zf 161 61 = some (.ireturn) ∧ zf 161 62 = some (.aload_n 0) ∧ zf 161 63 = some (.getfield 37) ∧ zf 161 66 = some (.iload_n 1) ∧ zf 161 67 = some (.iaload) ∧ zf 161 68 = some (.ireturn) ∧ zf 161 69 = some (.aload_n 0) ∧ zf 161 70 = some (.getfield 48) ∧ zf 161 73 = some (.iload_n 1) ∧ zf 161 74 = some (.baload) ∧ zf 161 75 = some (.ifCond .eq 7) ∧ zf 161 78 = some (.iconst 1) ∧ zf 161 79 = some (.goto 4) ∧ zf 161 82 = some (.iconst 0) ∧ zf 161 83 = some (.ireturn) := by decide +kernel
theorem f161_60 : zf 161 60 = some (.iaload) := cf161_60.1
theorem f161_61 : zf 161 61 = some (.ireturn) := cf161_60.2.1
theorem f161_62 : zf 161 62 = some (.aload_n 0) := cf161_60.2.2.1
theorem f161_63 : zf 161 63 = some (.getfield 37) := cf161_60.2.2.2.1
theorem f161_66 : zf 161 66 = some (.iload_n 1) := cf161_60.2.2.2.2.1
theorem f161_67 : zf 161 67 = some (.iaload) := cf161_60.2.2.2.2.2.1
theorem f161_68 : zf 161 68 = some (.ireturn) := cf161_60.2.2.2.2.2.2.1
theorem f161_69 : zf 161 69 = some (.aload_n 0) := cf161_60.2.2.2.2.2.2.2.1
theorem f161_70 : zf 161 70 = some (.getfield 48) := cf161_60.2.2.2.2.2.2.2.2.1
theorem f161_73 : zf 161 73 = some (.iload_n 1) := cf161_60.2.2.2.2.2.2.2.2.2.1
theorem f161_74 : zf 161 74 = some (.baload) := cf161_60.2.2.2.2.2.2.2.2.2.2.1
theorem f161_75 : zf 161 75 = some (.ifCond .eq 7) := cf161_60.2.2.2.2.2.2.2.2.2.2.2.1
theorem f161_78 : zf 161 78 = some (.iconst 1) := cf161_60.2.2.2.2.2.2.2.2.2.2.2.2.1
theorem f161_79 : zf 161 79 = some (.goto 4) := cf161_60.2.2.2.2.2.2.2.2.2.2.2.2.2.1
theorem f161_82 : zf 161 82 = some (.iconst 0) := cf161_60.2.2.2.2.2.2.2.2.2.2.2.2.2.2.1
theorem f161_83 : zf 161 83 = some (.ireturn) := cf161_60.2.2.2.2.2.2.2.2.2.2.2.2.2.2.2
theorem cf161_84 : zf 161 84 = some (.aload_n 0) ∧ zf 161 85 = some (.iload_n 1) ∧ zf 161 86 = some (.invokevirtual 130) ∧ zf 161 89 = some (.ifCond .eq 7) ∧ zf 161 92 = some (.iconst 1) ∧ zf 161 93 = some (.goto 4) ∧ zf 161 96 = some (.iconst 0) ∧ zf 161 97 = some (.ireturn) ∧ zf 161 98 = some (.bipush (-2)) ∧ zf 161 100 = some (.ireturn) := by decide +kernel
theorem f161_84 : zf 161 84 = some (.aload_n 0) := cf161_84.1
theorem f161_85 : zf 161 85 = some (.iload_n 1) := cf161_84.2.1
theorem f161_86 : zf 161 86 = some (.invokevirtual 130) := cf161_84.2.2.1
theorem f161_89 : zf 161 89 = some (.ifCond .eq 7) := cf161_84.2.2.2.1
theorem f161_92 : zf 161 92 = some (.iconst 1) := cf161_84.2.2.2.2.1
theorem f161_93 : zf 161 93 = some (.goto 4) := cf161_84.2.2.2.2.2.1
theorem f161_96 : zf 161 96 = some (.iconst 0) := cf161_84.2.2.2.2.2.2.1
theorem f161_97 : zf 161 97 = some (.ireturn) := cf161_84.2.2.2.2.2.2.2.1
theorem f161_98 : zf 161 98 = some (.bipush (-2)) := cf161_84.2.2.2.2.2.2.2.2.1
theorem f161_100 : zf 161 100 = some (.ireturn) := cf161_84.2.2.2.2.2.2.2.2.2
theorem cf162_0 : zf 162 0 = some (.iload_n 1) ∧ zf 162 1 = some (.ifCond .ne 10) ∧ zf 162 4 = some (.aload_n 0) ∧ zf 162 5 = some (.getfield 114) ∧ zf 162 8 = some (.goto 40) ∧ zf 162 11 = some (.iload_n 1) ∧ zf 162 12 = some (.iconst 1) ∧ zf 162 13 = some (.if_icmp .ne 10) ∧ zf 162 16 = some (.aload_n 0) ∧ zf 162 17 = some (.getfield 121) ∧ zf 162 20 = some (.goto 28) ∧ zf 162 23 = some (.iload_n 1) ∧ zf 162 24 = some (.iconst 2) ∧ zf 162 25 = some (.if_icmp .ne 10) ∧ zf 162 28 = some (.aload_n 0) ∧ zf 162 29 = some (.getfield 183) := by decide +kernel
theorem f162_0 : zf 162 0 = some (.iload_n 1) := cf162_0.1
theorem f162_1 : zf 162 1 = some (.ifCond .ne 10) := cf162_0.2.1
theorem f162_4 : zf 162 4 = some (.aload_n 0) := cf162_0.2.2.1
theorem f162_5 : zf 162 5 = some (.getfield 114) := cf162_0.2.2.2.1
theorem f162_8 : zf 162 8 = some (.goto 40) := cf162_0.2.2.2.2.1
theorem f162_11 : zf 162 11 = some (.iload_n 1) := cf162_0.2.2.2.2.2.1
theorem f162_12 : zf 162 12 = some (.iconst 1) := cf162_0.2.2.2.2.2.2.1
theorem f162_13 : zf 162 13 = some (.if_icmp .ne 10) := cf162_0.2.2.2.2.2.2.2.1
theorem f162_16 : zf 162 16 = some (.aload_n 0) := cf162_0.2.2.2.2.2.2.2.2.1
theorem f162_17 : zf 162 17 = some (.getfield 121) := cf162_0.2.2.2.2.2.2.2.2.2.1
theorem f162_20 : zf 162 20 = some (.goto 28) := cf162_0.2.2.2.2.2.2.2.2.2.2.1
theorem f162_23 : zf 162 23 = some (.iload_n 1) := cf162_0.2.2.2.2.2.2.2.2.2.2.2.1
theorem f162_24 : zf 162 24 = some (.iconst 2) := cf162_0.2.2.2.2.2.2.2.2.2.2.2.2.1
theorem f162_25 : zf 162 25 = some (.if_icmp .ne 10) := cf162_0.2.2.2.2.2.2.2.2.2.2.2.2.2.1
theorem f162_28 : zf 162 28 = some (.aload_n 0) := cf162_0.2.2.2.2.2.2.2.2.2.2.2.2.2.2.1
theorem f162_29 : zf 162 29 = some (.getfield 183) := cf162_0.2.2.2.2.2.2.2.2.2.2.2.2.2.2.2
theorem cf162_32 : zf 162 32 = some (.goto 16) ∧ zf 162 35 = some (.iload_n 1) ∧ zf 162 36 = some (.iconst 3) ∧ zf 162 37 = some (.if_icmp .ne 10) ∧ zf 162 40 = some (.aload_n 0) ∧ zf 162 41 = some (.getfield 246) ∧ zf 162 44 = some (.goto 4) ∧ zf 162 47 = some (.iconst (-1)) ∧ zf 162 48 = some (.ireturn) := by decide +kernel
theorem f162_32 : zf 162 32 = some (.goto 16) := cf162_32.1
theorem f162_35 : zf 162 35 = some (.iload_n 1) := cf162_32.2.1
theorem f162_36 : zf 162 36 = some (.iconst 3) := cf162_32.2.2.1
theorem f162_37 : zf 162 37 = some (.if_icmp .ne 10) := cf162_32.2.2.2.1
theorem f162_40 : zf 162 40 = some (.aload_n 0) := cf162_32.2.2.2.2.1
theorem f162_41 : zf 162 41 = some (.getfield 246) := cf162_32.2.2.2.2.2.1
theorem f162_44 : zf 162 44 = some (.goto 4) := cf162_32.2.2.2.2.2.2.1
theorem f162_47 : zf 162 47 = some (.iconst (-1)) := cf162_32.2.2.2.2.2.2.2.1
theorem f162_48 : zf 162 48 = some (.ireturn) := cf162_32.2.2.2.2.2.2.2.2
theorem cf163_0 : zf 163 0 = some (.aload_n 0) ∧ zf 163 1 = some (.getfield 183) ∧ zf 163 4 = some (.sipush 400) ∧ zf 163 7 = some (.if_icmp .ge 10) ∧ zf 163 10 = some (.aload_n 0) ∧ zf 163 11 = some (.getfield 183) ∧ zf 163 14 = some (.goto 6) ∧ zf 163 17 = some (.sipush 400) ∧ zf 163 20 = some (.istore_n 3) ∧ zf 163 21 = some (.iload_n 1) ∧ zf 163 22 = some (.iconst 0) ∧ zf 163 23 = some (.iload_n 3) ∧ zf 163 24 = some (.iconst 1) ∧ zf 163 25 = some (.isub) ∧ zf 163 26 = some (.invokestatic 117) ∧ zf 163 29 = some (.ifCond .eq 12) := by decide +kernel
theorem f163_0 : zf 163 0 = some (.aload_n 0) := cf163_0.1
theorem f163_1 : zf 163 1 = some (.getfield 183) := cf163_0.2.1
theorem f163_4 : zf 163 4 = some (.sipush 400) := cf163_0.2.2.1
theorem f163_7 : zf 163 7 = some (.if_icmp .ge 10) := cf163_0.2.2.2.1
theorem f163_10 : zf 163 10 = some (.aload_n 0) := cf163_0.2.2.2.2.1
theorem f163_11 : zf 163 11 = some (.getfield 183) := cf163_0.2.2.2.2.2.1
theorem f163_14 : zf 163 14 = some (.goto 6) := cf163_0.2.2.2.2.2.2.1
theorem f163_17 : zf 163 17 = some (.sipush 400) := cf163_0.2.2.2.2.2.2.2.1
theorem f163_20 : zf 163 20 = some (.istore_n 3) := cf163_0.2.2.2.2.2.2.2.2.1
theorem f163_21 : zf 163 21 = some (.iload_n 1) := cf163_0.2.2.2.2.2.2.2.2.2.1
theorem f163_22 : zf 163 22 = some (.iconst 0) := cf163_0.2.2.2.2.2.2.2.2.2.2.1
theorem f163_23 : zf 163 23 = some (.iload_n 3) := cf163_0.2.2.2.2.2.2.2.2.2.2.2.1
theorem f163_24 : zf 163 24 = some (.iconst 1) := cf163_0.2.2.2.2.2.2.2.2.2.2.2.2.1
theorem f163_25 : zf 163 25 = some (.isub) := cf163_0.2.2.2.2.2.2.2.2.2.2.2.2.2.1
theorem f163_26 : zf 163 26 = some (.invokestatic 117) := cf163_0.2.2.2.2.2.2.2.2.2.2.2.2.2.2.1
theorem f163_29 : zf 163 29 = some (.ifCond .eq 12) := cf163_0.2.2.2.2.2.2.2.2.2.2.2.2.2.2.2
theorem cf163_32 : zf 163 32 = some (.iload_n 2) ∧ zf 163 33 = some (.iconst 0) ∧ zf 163 34 = some (.iconst 3) ∧ zf 163 35 = some (.invokestatic 117) ∧ zf 163 38 = some (.ifCond .ne 5) ∧ zf 163 41 = some (.iconst (-1)) ∧ zf 163 42 = some (.ireturn) ∧ zf 163 43 = some (.iload_n 2) ∧ zf 163 44 = some (.ifCond .ne 12) ∧ zf 163 47 = some (.aload_n 0) ∧ zf 163 48 = some (.getfield 62) ∧ zf 163 51 = some (.iload_n 1) ∧ zf 163 52 = some (.iaload) ∧ zf 163 53 = some (.goto 36) ∧ zf 163 56 = some (.iload_n 2) ∧ zf 163 57 = some (.iconst 1) := by decide +kernel
theorem f163_32 : zf 163 32 = some (.iload_n 2) := cf163_32.1
theorem f163_33 : zf 163 33 = some (.iconst 0) := cf163_32.2.1
theorem f163_34 : zf 163 34 = some (.iconst 3) := cf163_32.2.2.1
theorem f163_35 : zf 163 35 = some (.invokestatic 117) := cf163_32.2.2.2.1
theorem f163_38 : zf 163 38 = some (.ifCond .ne 5) := cf163_32.2.2.2.2.1
theorem f163_41 : zf 163 41 = some (.iconst (-1)) := cf163_32.2.2.2.2.2.1
theorem f163_42 : zf 163 42 = some (.ireturn) := cf163_32.2.2.2.2.2.2.1
theorem f163_43 : zf 163 43 = some (.iload_n 2) := cf163_32.2.2.2.2.2.2.2.1
theorem f163_44 : zf 163 44 = some (.ifCond .ne 12) := cf163_32.2.2.2.2.2.2.2.2.1
theorem f163_47 : zf 163 47 = some (.aload_n 0) := cf163_32.2.2.2.2.2.2.2.2.2.1
theorem f163_48 : zf 163 48 = some (.getfield 62) := cf163_32.2.2.2.2.2.2.2.2.2.2.1
theorem f163_51 : zf 163 51 = some (.iload_n 1) := cf163_32.2.2.2.2.2.2.2.2.2.2.2.1
theorem f163_52 : zf 163 52 = some (.iaload) := cf163_32.2.2.2.2.2.2.2.2.2.2.2.2.1
theorem f163_53 : zf 163 53 = some (.goto 36) := cf163_32.2.2.2.2.2.2.2.2.2.2.2.2.2.1
theorem f163_56 : zf 163 56 = some (.iload_n 2) := cf163_32.2.2.2.2.2.2.2.2.2.2.2.2.2.2.1
theorem f163_57 : zf 163 57 = some (.iconst 1) := cf163_32.2.2.2.2.2.2.2.2.2.2.2.2.2.2.2
theorem cf163_58 : zf 163 58 = some (.if_icmp .ne 12) ∧ zf 163 61 = some (.aload_n 0) ∧ zf 163 62 = some (.getfield 65) ∧ zf 163 65 = some (.iload_n 1) ∧ zf 163 66 = some (.iaload) ∧ zf 163 67 = some (.goto 22) ∧ zf 163 70 = some (.aload_n 0) ∧ zf 163 71 = some (.getfield 68) ∧ zf 163 74 = some (.iload_n 1) ∧ zf 163 75 = some (.laload) ∧ zf 163 76 = some (.aload_n 0) ∧ zf 163 77 = some (.getfield 71) ∧ zf 163 80 = some (.iload_n 1) ∧ zf 163 81 = some (.laload) ∧ zf 163 82 = some (.iload_n 2) ∧ zf 163 83 = some (.iconst 2) := by decide +kernel
theorem f163_58 : zf 163 58 = some (.if_icmp .ne 12) := cf163_58.1
theorem f163_61 : zf 163 61 = some (.aload_n 0) := cf163_58.2.1
theorem f163_62 : zf 163 62 = some (.getfield 65) := cf163_58.2.2.1
theorem f163_65 : zf 163 65 = some (.iload_n 1) := cf163_58.2.2.2.1
theorem f163_66 : zf 163 66 = some (.iaload) := cf163_58.2.2.2.2.1
theorem f163_67 : zf 163 67 = some (.goto 22) := cf163_58.2.2.2.2.2.1
theorem f163_70 : zf 163 70 = some (.aload_n 0) := cf163_58.2.2.2.2.2.2.1
theorem f163_71 : zf 163 71 = some (.getfield 68) := cf163_58.2.2.2.2.2.2.2.1
theorem f163_74 : zf 163 74 = some (.iload_n 1) := cf163_58.2.2.2.2.2.2.2.2.1
theorem f163_75 : zf 163 75 = some (.laload) := cf163_58.2.2.2.2.2.2.2.2.2.1
theorem f163_76 : zf 163 76 = some (.aload_n 0) := cf163_58.2.2.2.2.2.2.2.2.2.2.1
theorem f163_77 : zf 163 77 = some (.getfield 71) := cf163_58.2.2.2.2.2.2.2.2.2.2.2.1
theorem f163_80 : zf 163 80 = some (.iload_n 1) := cf163_58.2.2.2.2.2.2.2.2.2.2.2.2.1
theorem f163_81 : zf 163 81 = some (.laload) := cf163_58.2.2.2.2.2.2.2.2.2.2.2.2.2.1
theorem f163_82 : zf 163 82 = some (.iload_n 2) := cf163_58.2.2.2.2.2.2.2.2.2.2.2.2.2.2.1
theorem f163_83 : zf 163 83 = some (.iconst 2) := cf163_58.2.2.2.2.2.2.2.2.2.2.2.2.2.2.2
theorem cf163_84 : zf 163 84 = some (.isub) ∧ zf 163 85 = some (.invokestatic 239) ∧ zf 163 88 = some (.l2i) ∧ zf 163 89 = some (.ireturn) := by decide +kernel
theorem f163_84 : zf 163 84 = some (.isub) := cf163_84.1
theorem f163_85 : zf 163 85 = some (.invokestatic 239) := cf163_84.2.1
theorem f163_88 : zf 163 88 = some (.l2i) := cf163_84.2.2.1
theorem f163_89 : zf 163 89 = some (.ireturn) := cf163_84.2.2.2
theorem cf164_0 : zf 164 0 = some (.lconst 0) ∧ zf 164 1 = some (.lstore_n 2) ∧ zf 164 2 = some (.iconst 0) ∧ zf 164 3 = some (.istore 4) ∧ zf 164 5 = some (.iload 4) ∧ zf 164 7 = some (.aload_n 0) ∧ zf 164 8 = some (.getfield 114) ∧ zf 164 11 = some (.if_icmp .ge 19) ∧ zf 164 14 = some (.lload_n 2) ∧ zf 164 15 = some (.aload_n 0) ∧ zf 164 16 = some (.getfield 44) ∧ zf 164 19 = some (.iload 4) ∧ zf 164 21 = some (.laload) ∧ zf 164 22 = some (.ladd) ∧ zf 164 23 = some (.lstore_n 2) ∧ zf 164 24 = some (.iinc 4 1) := by decide +kernel
theorem f164_0 : zf 164 0 = some (.lconst 0) := cf164_0.1
theorem f164_1 : zf 164 1 = some (.lstore_n 2) := cf164_0.2.1
theorem f164_2 : zf 164 2 = some (.iconst 0) := cf164_0.2.2.1
theorem f164_3 : zf 164 3 = some (.istore 4) := cf164_0.2.2.2.1
theorem f164_5 : zf 164 5 = some (.iload 4) := cf164_0.2.2.2.2.1
theorem f164_7 : zf 164 7 = some (.aload_n 0) := cf164_0.2.2.2.2.2.1
theorem f164_8 : zf 164 8 = some (.getfield 114) := cf164_0.2.2.2.2.2.2.1
theorem f164_11 : zf 164 11 = some (.if_icmp .ge 19) := cf164_0.2.2.2.2.2.2.2.1
theorem f164_14 : zf 164 14 = some (.lload_n 2) := cf164_0.2.2.2.2.2.2.2.2.1
theorem f164_15 : zf 164 15 = some (.aload_n 0) := cf164_0.2.2.2.2.2.2.2.2.2.1
theorem f164_16 : zf 164 16 = some (.getfield 44) := cf164_0.2.2.2.2.2.2.2.2.2.2.1
theorem f164_19 : zf 164 19 = some (.iload 4) := cf164_0.2.2.2.2.2.2.2.2.2.2.2.1
theorem f164_21 : zf 164 21 = some (.laload) := cf164_0.2.2.2.2.2.2.2.2.2.2.2.2.1
theorem f164_22 : zf 164 22 = some (.ladd) := cf164_0.2.2.2.2.2.2.2.2.2.2.2.2.2.1
theorem f164_23 : zf 164 23 = some (.lstore_n 2) := cf164_0.2.2.2.2.2.2.2.2.2.2.2.2.2.2.1
theorem f164_24 : zf 164 24 = some (.iinc 4 1) := cf164_0.2.2.2.2.2.2.2.2.2.2.2.2.2.2.2
theorem cf164_27 : zf 164 27 = some (.goto (-22)) ∧ zf 164 30 = some (.iload_n 1) ∧ zf 164 31 = some (.tableswitch 86 0 6 #[41, 41, 54, 59, 59, 74, 74]) ∧ zf 164 72 = some (.aload_n 0) ∧ zf 164 73 = some (.getfield 175) ∧ zf 164 76 = some (.aload_n 0) ∧ zf 164 77 = some (.getfield 40) ∧ zf 164 80 = some (.iload_n 1) ∧ zf 164 81 = some (.invokestatic 239) ∧ zf 164 84 = some (.lreturn) ∧ zf 164 85 = some (.aload_n 0) ∧ zf 164 86 = some (.getfield 225) ∧ zf 164 89 = some (.lreturn) ∧ zf 164 90 = some (.aload_n 0) ∧ zf 164 91 = some (.getfield 178) ∧ zf 164 94 = some (.aload_n 0) := by decide +kernel
theorem f164_27 : zf 164 27 = some (.goto (-22)) := cf164_27.1
theorem f164_30 : zf 164 30 = some (.iload_n 1) := cf164_27.2.1
theorem f164_31 : zf 164 31 = some (.tableswitch 86 0 6 #[41, 41, 54, 59, 59, 74, 74]) := cf164_27.2.2.1
theorem f164_72 : zf 164 72 = some (.aload_n 0) := cf164_27.2.2.2.1
theorem f164_73 : zf 164 73 = some (.getfield 175) := cf164_27.2.2.2.2.1
theorem f164_76 : zf 164 76 = some (.aload_n 0) := cf164_27.2.2.2.2.2.1
theorem f164_77 : zf 164 77 = some (.getfield 40) := cf164_27.2.2.2.2.2.2.1
theorem f164_80 : zf 164 80 = some (.iload_n 1) := cf164_27.2.2.2.2.2.2.2.1
theorem f164_81 : zf 164 81 = some (.invokestatic 239) := cf164_27.2.2.2.2.2.2.2.2.1
theorem f164_84 : zf 164 84 = some (.lreturn) := cf164_27.2.2.2.2.2.2.2.2.2.1
theorem f164_85 : zf 164 85 = some (.aload_n 0) := cf164_27.2.2.2.2.2.2.2.2.2.2.1
theorem f164_86 : zf 164 86 = some (.getfield 225) := cf164_27.2.2.2.2.2.2.2.2.2.2.2.1
theorem f164_89 : zf 164 89 = some (.lreturn) := cf164_27.2.2.2.2.2.2.2.2.2.2.2.2.1
theorem f164_90 : zf 164 90 = some (.aload_n 0) := cf164_27.2.2.2.2.2.2.2.2.2.2.2.2.2.1
theorem f164_91 : zf 164 91 = some (.getfield 178) := cf164_27.2.2.2.2.2.2.2.2.2.2.2.2.2.2.1
theorem f164_94 : zf 164 94 = some (.aload_n 0) := cf164_27.2.2.2.2.2.2.2.2.2.2.2.2.2.2.2
theorem cf164_95 : zf 164 95 = some (.getfield 40) ∧ zf 164 98 = some (.iload_n 1) ∧ zf 164 99 = some (.iconst 3) ∧ zf 164 100 = some (.isub) ∧ zf 164 101 = some (.invokestatic 239) ∧ zf 164 104 = some (.lreturn) ∧ zf 164 105 = some (.lload_n 2) ∧ zf 164 106 = some (.aload_n 0) ∧ zf 164 107 = some (.getfield 40) ∧ zf 164 110 = some (.iload_n 1) ∧ zf 164 111 = some (.iconst 5) ∧ zf 164 112 = some (.isub) ∧ zf 164 113 = some (.invokestatic 239) ∧ zf 164 116 = some (.lreturn) ∧ zf 164 117 = some (.ldc2_w 243) ∧ zf 164 120 = some (.lreturn) := by decide +kernel
theorem f164_95 : zf 164 95 = some (.getfield 40) := cf164_95.1
theorem f164_98 : zf 164 98 = some (.iload_n 1) := cf164_95.2.1
theorem f164_99 : zf 164 99 = some (.iconst 3) := cf164_95.2.2.1
theorem f164_100 : zf 164 100 = some (.isub) := cf164_95.2.2.2.1
theorem f164_101 : zf 164 101 = some (.invokestatic 239) := cf164_95.2.2.2.2.1
theorem f164_104 : zf 164 104 = some (.lreturn) := cf164_95.2.2.2.2.2.1
theorem f164_105 : zf 164 105 = some (.lload_n 2) := cf164_95.2.2.2.2.2.2.1
theorem f164_106 : zf 164 106 = some (.aload_n 0) := cf164_95.2.2.2.2.2.2.2.1
theorem f164_107 : zf 164 107 = some (.getfield 40) := cf164_95.2.2.2.2.2.2.2.2.1
theorem f164_110 : zf 164 110 = some (.iload_n 1) := cf164_95.2.2.2.2.2.2.2.2.2.1
theorem f164_111 : zf 164 111 = some (.iconst 5) := cf164_95.2.2.2.2.2.2.2.2.2.2.1
theorem f164_112 : zf 164 112 = some (.isub) := cf164_95.2.2.2.2.2.2.2.2.2.2.2.1
theorem f164_113 : zf 164 113 = some (.invokestatic 239) := cf164_95.2.2.2.2.2.2.2.2.2.2.2.2.1
theorem f164_116 : zf 164 116 = some (.lreturn) := cf164_95.2.2.2.2.2.2.2.2.2.2.2.2.2.1
theorem f164_117 : zf 164 117 = some (.ldc2_w 243) := cf164_95.2.2.2.2.2.2.2.2.2.2.2.2.2.2.1
theorem f164_120 : zf 164 120 = some (.lreturn) := cf164_95.2.2.2.2.2.2.2.2.2.2.2.2.2.2.2
theorem cf165_0 : zf 165 0 = some (.aload_n 0) ∧ zf 165 1 = some (.iconst 0) ∧ zf 165 2 = some (.putfield 58) ∧ zf 165 5 = some (.aload_n 0) ∧ zf 165 6 = some (.aload_n 0) ∧ zf 165 7 = some (.getfield 40) ∧ zf 165 10 = some (.putfield 249) ∧ zf 165 13 = some (.aload_n 0) ∧ zf 165 14 = some (.aload_n 0) ∧ zf 165 15 = some (.getfield 172) ∧ zf 165 18 = some (.putfield 252) ∧ zf 165 21 = some (.aload_n 0) ∧ zf 165 22 = some (.aload_n 0) ∧ zf 165 23 = some (.getfield 175) ∧ zf 165 26 = some (.putfield 255) ∧ zf 165 29 = some (.aload_n 0) := by decide +kernel
theorem f165_0 : zf 165 0 = some (.aload_n 0) := cf165_0.1
theorem f165_1 : zf 165 1 = some (.iconst 0) := cf165_0.2.1
theorem f165_2 : zf 165 2 = some (.putfield 58) := cf165_0.2.2.1
theorem f165_5 : zf 165 5 = some (.aload_n 0) := cf165_0.2.2.2.1
theorem f165_6 : zf 165 6 = some (.aload_n 0) := cf165_0.2.2.2.2.1
theorem f165_7 : zf 165 7 = some (.getfield 40) := cf165_0.2.2.2.2.2.1
theorem f165_10 : zf 165 10 = some (.putfield 249) := cf165_0.2.2.2.2.2.2.1
theorem f165_13 : zf 165 13 = some (.aload_n 0) := cf165_0.2.2.2.2.2.2.2.1
theorem f165_14 : zf 165 14 = some (.aload_n 0) := cf165_0.2.2.2.2.2.2.2.2.1
theorem f165_15 : zf 165 15 = some (.getfield 172) := cf165_0.2.2.2.2.2.2.2.2.2.1
theorem f165_18 : zf 165 18 = some (.putfield 252) := cf165_0.2.2.2.2.2.2.2.2.2.2.1
theorem f165_21 : zf 165 21 = some (.aload_n 0) := cf165_0.2.2.2.2.2.2.2.2.2.2.2.1
theorem f165_22 : zf 165 22 = some (.aload_n 0) := cf165_0.2.2.2.2.2.2.2.2.2.2.2.2.1
theorem f165_23 : zf 165 23 = some (.getfield 175) := cf165_0.2.2.2.2.2.2.2.2.2.2.2.2.2.1
theorem f165_26 : zf 165 26 = some (.putfield 255) := cf165_0.2.2.2.2.2.2.2.2.2.2.2.2.2.2.1
theorem f165_29 : zf 165 29 = some (.aload_n 0) := cf165_0.2.2.2.2.2.2.2.2.2.2.2.2.2.2.2
theorem cf165_30 : zf 165 30 = some (.aload_n 0) ∧ zf 165 31 = some (.getfield 178) ∧ zf 165 34 = some (.putfield 258) ∧ zf 165 37 = some (.aload_n 0) ∧ zf 165 38 = some (.aload_n 0) ∧ zf 165 39 = some (.getfield 183) ∧ zf 165 42 = some (.putfield 261) ∧ zf 165 45 = some (.iconst 0) ∧ zf 165 46 = some (.istore_n 1) ∧ zf 165 47 = some (.iload_n 1) ∧ zf 165 48 = some (.bipush 8) ∧ zf 165 50 = some (.if_icmp .ge 45) ∧ zf 165 53 = some (.aload_n 0) ∧ zf 165 54 = some (.getfield 96) ∧ zf 165 57 = some (.iload_n 1) ∧ zf 165 58 = some (.aload_n 0) := by decide +kernel
theorem f165_30 : zf 165 30 = some (.aload_n 0) := cf165_30.1
theorem f165_31 : zf 165 31 = some (.getfield 178) := cf165_30.2.1
theorem f165_34 : zf 165 34 = some (.putfield 258) := cf165_30.2.2.1
theorem f165_37 : zf 165 37 = some (.aload_n 0) := cf165_30.2.2.2.1
theorem f165_38 : zf 165 38 = some (.aload_n 0) := cf165_30.2.2.2.2.1
theorem f165_39 : zf 165 39 = some (.getfield 183) := cf165_30.2.2.2.2.2.1
theorem f165_42 : zf 165 42 = some (.putfield 261) := cf165_30.2.2.2.2.2.2.1
theorem f165_45 : zf 165 45 = some (.iconst 0) := cf165_30.2.2.2.2.2.2.2.1
theorem f165_46 : zf 165 46 = some (.istore_n 1) := cf165_30.2.2.2.2.2.2.2.2.1
theorem f165_47 : zf 165 47 = some (.iload_n 1) := cf165_30.2.2.2.2.2.2.2.2.2.1
theorem f165_48 : zf 165 48 = some (.bipush 8) := cf165_30.2.2.2.2.2.2.2.2.2.2.1
theorem f165_50 : zf 165 50 = some (.if_icmp .ge 45) := cf165_30.2.2.2.2.2.2.2.2.2.2.2.1
theorem f165_53 : zf 165 53 = some (.aload_n 0) := cf165_30.2.2.2.2.2.2.2.2.2.2.2.2.1
theorem f165_54 : zf 165 54 = some (.getfield 96) := cf165_30.2.2.2.2.2.2.2.2.2.2.2.2.2.1
theorem f165_57 : zf 165 57 = some (.iload_n 1) := cf165_30.2.2.2.2.2.2.2.2.2.2.2.2.2.2.1
theorem f165_58 : zf 165 58 = some (.aload_n 0) := cf165_30.2.2.2.2.2.2.2.2.2.2.2.2.2.2.2
theorem cf165_59 : zf 165 59 = some (.getfield 44) ∧ zf 165 62 = some (.iload_n 1) ∧ zf 165 63 = some (.laload) ∧ zf 165 64 = some (.lastore) ∧ zf 165 65 = some (.aload_n 0) ∧ zf 165 66 = some (.getfield 102) ∧ zf 165 69 = some (.iload_n 1) ∧ zf 165 70 = some (.aload_n 0) ∧ zf 165 71 = some (.getfield 52) ∧ zf 165 74 = some (.iload_n 1) ∧ zf 165 75 = some (.baload) ∧ zf 165 76 = some (.bastore) ∧ zf 165 77 = some (.aload_n 0) ∧ zf 165 78 = some (.getfield 105) ∧ zf 165 81 = some (.iload_n 1) ∧ zf 165 82 = some (.aload_n 0) := by decide +kernel
theorem f165_59 : zf 165 59 = some (.getfield 44) := cf165_59.1
theorem f165_62 : zf 165 62 = some (.iload_n 1) := cf165_59.2.1
theorem f165_63 : zf 165 63 = some (.laload) := cf165_59.2.2.1
theorem f165_64 : zf 165 64 = some (.lastore) := cf165_59.2.2.2.1
theorem f165_65 : zf 165 65 = some (.aload_n 0) := cf165_59.2.2.2.2.1
theorem f165_66 : zf 165 66 = some (.getfield 102) := cf165_59.2.2.2.2.2.1
theorem f165_69 : zf 165 69 = some (.iload_n 1) := cf165_59.2.2.2.2.2.2.1
theorem f165_70 : zf 165 70 = some (.aload_n 0) := cf165_59.2.2.2.2.2.2.2.1
theorem f165_71 : zf 165 71 = some (.getfield 52) := cf165_59.2.2.2.2.2.2.2.2.1
theorem f165_74 : zf 165 74 = some (.iload_n 1) := cf165_59.2.2.2.2.2.2.2.2.2.1
theorem f165_75 : zf 165 75 = some (.baload) := cf165_59.2.2.2.2.2.2.2.2.2.2.1
theorem f165_76 : zf 165 76 = some (.bastore) := cf165_59.2.2.2.2.2.2.2.2.2.2.2.1
theorem f165_77 : zf 165 77 = some (.aload_n 0) := cf165_59.2.2.2.2.2.2.2.2.2.2.2.2.1
theorem f165_78 : zf 165 78 = some (.getfield 105) := cf165_59.2.2.2.2.2.2.2.2.2.2.2.2.2.1
theorem f165_81 : zf 165 81 = some (.iload_n 1) := cf165_59.2.2.2.2.2.2.2.2.2.2.2.2.2.2.1
theorem f165_82 : zf 165 82 = some (.aload_n 0) := cf165_59.2.2.2.2.2.2.2.2.2.2.2.2.2.2.2
theorem cf165_83 : zf 165 83 = some (.getfield 55) ∧ zf 165 86 = some (.iload_n 1) ∧ zf 165 87 = some (.iaload) ∧ zf 165 88 = some (.iastore) ∧ zf 165 89 = some (.iinc 1 1) ∧ zf 165 92 = some (.goto (-45)) ∧ zf 165 95 = some (.iconst 0) ∧ zf 165 96 = some (.istore_n 1) ∧ zf 165 97 = some (.iload_n 1) ∧ zf 165 98 = some (.bipush 14) ∧ zf 165 100 = some (.if_icmp .ge 21) ∧ zf 165 103 = some (.aload_n 0) ∧ zf 165 104 = some (.getfield 99) ∧ zf 165 107 = some (.iload_n 1) ∧ zf 165 108 = some (.aload_n 0) ∧ zf 165 109 = some (.getfield 48) := by decide +kernel
theorem f165_83 : zf 165 83 = some (.getfield 55) := cf165_83.1
theorem f165_86 : zf 165 86 = some (.iload_n 1) := cf165_83.2.1
theorem f165_87 : zf 165 87 = some (.iaload) := cf165_83.2.2.1
theorem f165_88 : zf 165 88 = some (.iastore) := cf165_83.2.2.2.1
theorem f165_89 : zf 165 89 = some (.iinc 1 1) := cf165_83.2.2.2.2.1
theorem f165_92 : zf 165 92 = some (.goto (-45)) := cf165_83.2.2.2.2.2.1
theorem f165_95 : zf 165 95 = some (.iconst 0) := cf165_83.2.2.2.2.2.2.1
theorem f165_96 : zf 165 96 = some (.istore_n 1) := cf165_83.2.2.2.2.2.2.2.1
theorem f165_97 : zf 165 97 = some (.iload_n 1) := cf165_83.2.2.2.2.2.2.2.2.1
theorem f165_98 : zf 165 98 = some (.bipush 14) := cf165_83.2.2.2.2.2.2.2.2.2.1
theorem f165_100 : zf 165 100 = some (.if_icmp .ge 21) := cf165_83.2.2.2.2.2.2.2.2.2.2.1
theorem f165_103 : zf 165 103 = some (.aload_n 0) := cf165_83.2.2.2.2.2.2.2.2.2.2.2.1
theorem f165_104 : zf 165 104 = some (.getfield 99) := cf165_83.2.2.2.2.2.2.2.2.2.2.2.2.1
theorem f165_107 : zf 165 107 = some (.iload_n 1) := cf165_83.2.2.2.2.2.2.2.2.2.2.2.2.2.1
theorem f165_108 : zf 165 108 = some (.aload_n 0) := cf165_83.2.2.2.2.2.2.2.2.2.2.2.2.2.2.1
theorem f165_109 : zf 165 109 = some (.getfield 48) := cf165_83.2.2.2.2.2.2.2.2.2.2.2.2.2.2.2
theorem cf165_112 : zf 165 112 = some (.iload_n 1) ∧ zf 165 113 = some (.baload) ∧ zf 165 114 = some (.bastore) ∧ zf 165 115 = some (.iinc 1 1) ∧ zf 165 118 = some (.goto (-21)) ∧ zf 165 121 = some (.return_) := by decide +kernel
theorem f165_112 : zf 165 112 = some (.iload_n 1) := cf165_112.1
theorem f165_113 : zf 165 113 = some (.baload) := cf165_112.2.1
theorem f165_114 : zf 165 114 = some (.bastore) := cf165_112.2.2.1
theorem f165_115 : zf 165 115 = some (.iinc 1 1) := cf165_112.2.2.2.1
theorem f165_118 : zf 165 118 = some (.goto (-21)) := cf165_112.2.2.2.2.1
theorem f165_121 : zf 165 121 = some (.return_) := cf165_112.2.2.2.2.2
