theorem cf47_0 : zf 47 0 = some (.aload_n 0) ∧ zf 47 1 = some (.invokespecial 3) ∧ zf 47 4 = some (.aload_n 0) ∧ zf 47 5 = some (.new 9) ∧ zf 47 8 = some (.dup) ∧ zf 47 9 = some (.invokespecial 11) ∧ zf 47 12 = some (.putfield 12) ∧ zf 47 15 = some (.aload_n 0) ∧ zf 47 16 = some (.bipush 8) ∧ zf 47 18 = some (.newarray .int) ∧ zf 47 20 = some (.putfield 18) ∧ zf 47 23 = some (.aload_n 0) ∧ zf 47 24 = some (.bipush 8) ∧ zf 47 26 = some (.newarray .int) ∧ zf 47 28 = some (.putfield 22) ∧ zf 47 31 = some (.aload_n 0) := by decide +kernel
theorem f47_0 : zf 47 0 = some (.aload_n 0) := cf47_0.1
theorem f47_1 : zf 47 1 = some (.invokespecial 3) := cf47_0.2.1
theorem f47_4 : zf 47 4 = some (.aload_n 0) := cf47_0.2.2.1
theorem f47_5 : zf 47 5 = some (.new 9) := cf47_0.2.2.2.1
theorem f47_8 : zf 47 8 = some (.dup) := cf47_0.2.2.2.2.1
theorem f47_9 : zf 47 9 = some (.invokespecial 11) := cf47_0.2.2.2.2.2.1
theorem f47_12 : zf 47 12 = some (.putfield 12) := cf47_0.2.2.2.2.2.2.1
theorem f47_15 : zf 47 15 = some (.aload_n 0) := cf47_0.2.2.2.2.2.2.2.1
theorem f47_16 : zf 47 16 = some (.bipush 8) := cf47_0.2.2.2.2.2.2.2.2.1
theorem f47_18 : zf 47 18 = some (.newarray .int) := cf47_0.2.2.2.2.2.2.2.2.2.1
theorem f47_20 : zf 47 20 = some (.putfield 18) := cf47_0.2.2.2.2.2.2.2.2.2.2.1
theorem f47_23 : zf 47 23 = some (.aload_n 0) := cf47_0.2.2.2.2.2.2.2.2.2.2.2.1
theorem f47_24 : zf 47 24 = some (.bipush 8) := cf47_0.2.2.2.2.2.2.2.2.2.2.2.2.1
theorem f47_26 : zf 47 26 = some (.newarray .int) := cf47_0.2.2.2.2.2.2.2.2.2.2.2.2.2.1
theorem f47_28 : zf 47 28 = some (.putfield 22) := cf47_0.2.2.2.2.2.2.2.2.2.2.2.2.2.2.1
theorem f47_31 : zf 47 31 = some (.aload_n 0) := cf47_0.2.2.2.2.2.2.2.2.2.2.2.2.2.2.2
theorem cf47_32 : zf 47 32 = some (.bipush 8) ∧ zf 47 34 = some (.newarray .int) ∧ zf 47 36 = some (.putfield 25) ∧ zf 47 39 = some (.aload_n 0) ∧ zf 47 40 = some (.bipush 14) ∧ zf 47 42 = some (.newarray .int) ∧ zf 47 44 = some (.putfield 28) ∧ zf 47 47 = some (.aload_n 0) ∧ zf 47 48 = some (.bipush 8) ∧ zf 47 50 = some (.newarray .int) ∧ zf 47 52 = some (.putfield 31) ∧ zf 47 55 = some (.aload_n 0) ∧ zf 47 56 = some (.bipush 8) ∧ zf 47 58 = some (.newarray .int) ∧ zf 47 60 = some (.putfield 34) ∧ zf 47 63 = some (.aload_n 0) := by decide +kernel
theorem f47_32 : zf 47 32 = some (.bipush 8) := cf47_32.1
theorem f47_34 : zf 47 34 = some (.newarray .int) := cf47_32.2.1
theorem f47_36 : zf 47 36 = some (.putfield 25) := cf47_32.2.2.1
theorem f47_39 : zf 47 39 = some (.aload_n 0) := cf47_32.2.2.2.1
theorem f47_40 : zf 47 40 = some (.bipush 14) := cf47_32.2.2.2.2.1
theorem f47_42 : zf 47 42 = some (.newarray .int) := cf47_32.2.2.2.2.2.1
theorem f47_44 : zf 47 44 = some (.putfield 28) := cf47_32.2.2.2.2.2.2.1
theorem f47_47 : zf 47 47 = some (.aload_n 0) := cf47_32.2.2.2.2.2.2.2.1
theorem f47_48 : zf 47 48 = some (.bipush 8) := cf47_32.2.2.2.2.2.2.2.2.1
theorem f47_50 : zf 47 50 = some (.newarray .int) := cf47_32.2.2.2.2.2.2.2.2.2.1
theorem f47_52 : zf 47 52 = some (.putfield 31) := cf47_32.2.2.2.2.2.2.2.2.2.2.1
theorem f47_55 : zf 47 55 = some (.aload_n 0) := cf47_32.2.2.2.2.2.2.2.2.2.2.2.1
theorem f47_56 : zf 47 56 = some (.bipush 8) := cf47_32.2.2.2.2.2.2.2.2.2.2.2.2.1
theorem f47_58 : zf 47 58 = some (.newarray .int) := cf47_32.2.2.2.2.2.2.2.2.2.2.2.2.2.1
theorem f47_60 : zf 47 60 = some (.putfield 34) := cf47_32.2.2.2.2.2.2.2.2.2.2.2.2.2.2.1
theorem f47_63 : zf 47 63 = some (.aload_n 0) := cf47_32.2.2.2.2.2.2.2.2.2.2.2.2.2.2.2
theorem cf47_64 : zf 47 64 = some (.aload_n 1) ∧ zf 47 65 = some (.putfield 37) ∧ zf 47 68 = some (.return_) := by decide +kernel
theorem f47_64 : zf 47 64 = some (.aload_n 1) := cf47_64.1
theorem f47_65 : zf 47 65 = some (.putfield 37) := cf47_64.2.1
theorem f47_68 : zf 47 68 = some (.return_) := cf47_64.2.2
theorem cf48_0 : zf 48 0 = some (.aload_n 0) ∧ zf 48 1 = some (.getfield 37) ∧ zf 48 4 = some (.iload_n 1) ∧ zf 48 5 = some (.invokevirtual 41) ∧ zf 48 8 = some (.istore_n 2) ∧ zf 48 9 = some (.aload_n 0) ∧ zf 48 10 = some (.getfield 12) ∧ zf 48 13 = some (.iload_n 1) ∧ zf 48 14 = some (.invokevirtual 47) ∧ zf 48 17 = some (.ifCond .eq 23) ∧ zf 48 20 = some (.iload_n 2) ∧ zf 48 21 = some (.iconst (-1)) ∧ zf 48 22 = some (.if_icmp .eq 14) ∧ zf 48 25 = some (.aload_n 0) ∧ zf 48 26 = some (.getfield 12) ∧ zf 48 29 = some (.iload_n 2) := by decide +kernel
theorem f48_0 : zf 48 0 = some (.aload_n 0) := cf48_0.1
theorem f48_1 : zf 48 1 = some (.getfield 37) := cf48_0.2.1
theorem f48_4 : zf 48 4 = some (.iload_n 1) := cf48_0.2.2.1
theorem f48_5 : zf 48 5 = some (.invokevirtual 41) := cf48_0.2.2.2.1
theorem f48_8 : zf 48 8 = some (.istore_n 2) := cf48_0.2.2.2.2.1
theorem f48_9 : zf 48 9 = some (.aload_n 0) := cf48_0.2.2.2.2.2.1
theorem f48_10 : zf 48 10 = some (.getfield 12) := cf48_0.2.2.2.2.2.2.1
theorem f48_13 : zf 48 13 = some (.iload_n 1) := cf48_0.2.2.2.2.2.2.2.1
theorem f48_14 : zf 48 14 = some (.invokevirtual 47) := cf48_0.2.2.2.2.2.2.2.2.1
theorem f48_17 : zf 48 17 = some (.ifCond .eq 23) := cf48_0.2.2.2.2.2.2.2.2.2.1
theorem f48_20 : zf 48 20 = some (.iload_n 2) := cf48_0.2.2.2.2.2.2.2.2.2.2.1
theorem f48_21 : zf 48 21 = some (.iconst (-1)) := cf48_0.2.2.2.2.2.2.2.2.2.2.2.1
theorem f48_22 : zf 48 22 = some (.if_icmp .eq 14) := cf48_0.2.2.2.2.2.2.2.2.2.2.2.2.1
theorem f48_25 : zf 48 25 = some (.aload_n 0) := cf48_0.2.2.2.2.2.2.2.2.2.2.2.2.2.1
theorem f48_26 : zf 48 26 = some (.getfield 12) := cf48_0.2.2.2.2.2.2.2.2.2.2.2.2.2.2.1
theorem f48_29 : zf 48 29 = some (.iload_n 2) := cf48_0.2.2.2.2.2.2.2.2.2.2.2.2.2.2.2
theorem cf48_30 : zf 48 30 = some (.invokevirtual 51) ∧ zf 48 33 = some (.ifCond .eq 7) ∧ zf 48 36 = some (.iconst 1) ∧ zf 48 37 = some (.goto 4) ∧ zf 48 40 = some (.iconst 0) ∧ zf 48 41 = some (.ireturn) := by decide +kernel
theorem f48_30 : zf 48 30 = some (.invokevirtual 51) := cf48_30.1
theorem f48_33 : zf 48 33 = some (.ifCond .eq 7) := cf48_30.2.1
theorem f48_36 : zf 48 36 = some (.iconst 1) := cf48_30.2.2.1
theorem f48_37 : zf 48 37 = some (.goto 4) := cf48_30.2.2.2.1
theorem f48_40 : zf 48 40 = some (.iconst 0) := cf48_30.2.2.2.2.1
theorem f48_41 : zf 48 41 = some (.ireturn) := cf48_30.2.2.2.2.2
theorem cf49_0 : zf 49 0 = some (.aload_n 0) ∧ zf 49 1 = some (.iconst 0) ∧ zf 49 2 = some (.putfield 54) ∧ zf 49 5 = some (.aload_n 0) ∧ zf 49 6 = some (.iconst 0) ∧ zf 49 7 = some (.putfield 58) ∧ zf 49 10 = some (.iconst 0) ∧ zf 49 11 = some (.istore_n 1) ∧ zf 49 12 = some (.iload_n 1) ∧ zf 49 13 = some (.bipush 8) ∧ zf 49 15 = some (.if_icmp .ge 16) ∧ zf 49 18 = some (.aload_n 0) ∧ zf 49 19 = some (.getfield 18) ∧ zf 49 22 = some (.iload_n 1) ∧ zf 49 23 = some (.iconst 0) ∧ zf 49 24 = some (.iastore) := by decide +kernel
theorem f49_0 : zf 49 0 = some (.aload_n 0) := cf49_0.1
theorem f49_1 : zf 49 1 = some (.iconst 0) := cf49_0.2.1
theorem f49_2 : zf 49 2 = some (.putfield 54) := cf49_0.2.2.1
theorem f49_5 : zf 49 5 = some (.aload_n 0) := cf49_0.2.2.2.1
theorem f49_6 : zf 49 6 = some (.iconst 0) := cf49_0.2.2.2.2.1
theorem f49_7 : zf 49 7 = some (.putfield 58) := cf49_0.2.2.2.2.2.1
theorem f49_10 : zf 49 10 = some (.iconst 0) := cf49_0.2.2.2.2.2.2.1
theorem f49_11 : zf 49 11 = some (.istore_n 1) := cf49_0.2.2.2.2.2.2.2.1
theorem f49_12 : zf 49 12 = some (.iload_n 1) := cf49_0.2.2.2.2.2.2.2.2.1
theorem f49_13 : zf 49 13 = some (.bipush 8) := cf49_0.2.2.2.2.2.2.2.2.2.1
theorem f49_15 : zf 49 15 = some (.if_icmp .ge 16) := cf49_0.2.2.2.2.2.2.2.2.2.2.1
theorem f49_18 : zf 49 18 = some (.aload_n 0) := cf49_0.2.2.2.2.2.2.2.2.2.2.2.1
theorem f49_19 : zf 49 19 = some (.getfield 18) := cf49_0.2.2.2.2.2.2.2.2.2.2.2.2.1
theorem f49_22 : zf 49 22 = some (.iload_n 1) := cf49_0.2.2.2.2.2.2.2.2.2.2.2.2.2.1
theorem f49_23 : zf 49 23 = some (.iconst 0) := cf49_0.2.2.2.2.2.2.2.2.2.2.2.2.2.2.1
theorem f49_24 : zf 49 24 = some (.iastore) := cf49_0.2.2.2.2.2.2.2.2.2.2.2.2.2.2.2
theorem cf49_25 : zf 49 25 = some (.iinc 1 1) ∧ zf 49 28 = some (.goto (-16)) ∧ zf 49 31 = some (.iconst 0) ∧ zf 49 32 = some (.istore_n 1) ∧ zf 49 33 = some (.iload_n 1) ∧ zf 49 34 = some (.aload_n 0) ∧ zf 49 35 = some (.getfield 37) ∧ zf 49 38 = some (.getfield 61) ∧ zf 49 41 = some (.if_icmp .ge 83) ∧ zf 49 44 = some (.aload_n 0) ∧ zf 49 45 = some (.getfield 37) ∧ zf 49 48 = some (.getfield 64) ∧ zf 49 51 = some (.iload_n 1) ∧ zf 49 52 = some (.iaload) ∧ zf 49 53 = some (.iconst (-1)) ∧ zf 49 54 = some (.if_icmp .ne 64) := by decide +kernel
theorem f49_25 : zf 49 25 = some (.iinc 1 1) := cf49_25.1
theorem f49_28 : zf 49 28 = some (.goto (-16)) := cf49_25.2.1
theorem f49_31 : zf 49 31 = some (.iconst 0) := cf49_25.2.2.1
theorem f49_32 : zf 49 32 = some (.istore_n 1) := cf49_25.2.2.2.1
theorem f49_33 : zf 49 33 = some (.iload_n 1) := cf49_25.2.2.2.2.1
theorem f49_34 : zf 49 34 = some (.aload_n 0) := cf49_25.2.2.2.2.2.1
theorem f49_35 : zf 49 35 = some (.getfield 37) := cf49_25.2.2.2.2.2.2.1
theorem f49_38 : zf 49 38 = some (.getfield 61) := cf49_25.2.2.2.2.2.2.2.1
theorem f49_41 : zf 49 41 = some (.if_icmp .ge 83) := cf49_25.2.2.2.2.2.2.2.2.1
theorem f49_44 : zf 49 44 = some (.aload_n 0) := cf49_25.2.2.2.2.2.2.2.2.2.1
theorem f49_45 : zf 49 45 = some (.getfield 37) := cf49_25.2.2.2.2.2.2.2.2.2.2.1
theorem f49_48 : zf 49 48 = some (.getfield 64) := cf49_25.2.2.2.2.2.2.2.2.2.2.2.1
theorem f49_51 : zf 49 51 = some (.iload_n 1) := cf49_25.2.2.2.2.2.2.2.2.2.2.2.2.1
theorem f49_52 : zf 49 52 = some (.iaload) := cf49_25.2.2.2.2.2.2.2.2.2.2.2.2.2.1
theorem f49_53 : zf 49 53 = some (.iconst (-1)) := cf49_25.2.2.2.2.2.2.2.2.2.2.2.2.2.2.1
theorem f49_54 : zf 49 54 = some (.if_icmp .ne 64) := cf49_25.2.2.2.2.2.2.2.2.2.2.2.2.2.2.2
theorem cf49_57 : zf 49 57 = some (.aload_n 0) ∧ zf 49 58 = some (.getfield 28) ∧ zf 49 61 = some (.iload_n 1) ∧ zf 49 62 = some (.aload_n 0) ∧ zf 49 63 = some (.iload_n 1) ∧ zf 49 64 = some (.invokevirtual 67) ∧ zf 49 67 = some (.ifCond .eq 15) ∧ zf 49 70 = some (.aload_n 0) ∧ zf 49 71 = some (.getfield 12) ∧ zf 49 74 = some (.getfield 70) ∧ zf 49 77 = some (.iload_n 1) ∧ zf 49 78 = some (.iaload) ∧ zf 49 79 = some (.goto 4) ∧ zf 49 82 = some (.iconst 0) ∧ zf 49 83 = some (.iastore) ∧ zf 49 84 = some (.aload_n 0) := by decide +kernel
theorem f49_57 : zf 49 57 = some (.aload_n 0) := cf49_57.1
theorem f49_58 : zf 49 58 = some (.getfield 28) := cf49_57.2.1
theorem f49_61 : zf 49 61 = some (.iload_n 1) := cf49_57.2.2.1
theorem f49_62 : zf 49 62 = some (.aload_n 0) := cf49_57.2.2.2.1
theorem f49_63 : zf 49 63 = some (.iload_n 1) := cf49_57.2.2.2.2.1
theorem f49_64 : zf 49 64 = some (.invokevirtual 67) := cf49_57.2.2.2.2.2.1
theorem f49_67 : zf 49 67 = some (.ifCond .eq 15) := cf49_57.2.2.2.2.2.2.1
theorem f49_70 : zf 49 70 = some (.aload_n 0) := cf49_57.2.2.2.2.2.2.2.1
theorem f49_71 : zf 49 71 = some (.getfield 12) := cf49_57.2.2.2.2.2.2.2.2.1
theorem f49_74 : zf 49 74 = some (.getfield 70) := cf49_57.2.2.2.2.2.2.2.2.2.1
theorem f49_77 : zf 49 77 = some (.iload_n 1) := cf49_57.2.2.2.2.2.2.2.2.2.2.1
theorem f49_78 : zf 49 78 = some (.iaload) := cf49_57.2.2.2.2.2.2.2.2.2.2.2.1
theorem f49_79 : zf 49 79 = some (.goto 4) := cf49_57.2.2.2.2.2.2.2.2.2.2.2.2.1
theorem f49_82 : zf 49 82 = some (.iconst 0) := cf49_57.2.2.2.2.2.2.2.2.2.2.2.2.2.1
theorem f49_83 : zf 49 83 = some (.iastore) := cf49_57.2.2.2.2.2.2.2.2.2.2.2.2.2.2.1
theorem f49_84 : zf 49 84 = some (.aload_n 0) := cf49_57.2.2.2.2.2.2.2.2.2.2.2.2.2.2.2
theorem cf49_85 : zf 49 85 = some (.dup) ∧ zf 49 86 = some (.getfield 54) ∧ zf 49 89 = some (.aload_n 0) ∧ zf 49 90 = some (.getfield 28) ∧ zf 49 93 = some (.iload_n 1) ∧ zf 49 94 = some (.iaload) ∧ zf 49 95 = some (.iadd) ∧ zf 49 96 = some (.putfield 54) ∧ zf 49 99 = some (.aload_n 0) ∧ zf 49 100 = some (.aload_n 0) ∧ zf 49 101 = some (.getfield 37) ∧ zf 49 104 = some (.getfield 73) ∧ zf 49 107 = some (.iload_n 1) ∧ zf 49 108 = some (.iaload) ∧ zf 49 109 = some (.aload_n 0) ∧ zf 49 110 = some (.getfield 28) := by decide +kernel
theorem f49_85 : zf 49 85 = some (.dup) := cf49_85.1
theorem f49_86 : zf 49 86 = some (.getfield 54) := cf49_85.2.1
theorem f49_89 : zf 49 89 = some (.aload_n 0) := cf49_85.2.2.1
theorem f49_90 : zf 49 90 = some (.getfield 28) := cf49_85.2.2.2.1
theorem f49_93 : zf 49 93 = some (.iload_n 1) := cf49_85.2.2.2.2.1
theorem f49_94 : zf 49 94 = some (.iaload) := cf49_85.2.2.2.2.2.1
theorem f49_95 : zf 49 95 = some (.iadd) := cf49_85.2.2.2.2.2.2.1
theorem f49_96 : zf 49 96 = some (.putfield 54) := cf49_85.2.2.2.2.2.2.2.1
theorem f49_99 : zf 49 99 = some (.aload_n 0) := cf49_85.2.2.2.2.2.2.2.2.1
theorem f49_100 : zf 49 100 = some (.aload_n 0) := cf49_85.2.2.2.2.2.2.2.2.2.1
theorem f49_101 : zf 49 101 = some (.getfield 37) := cf49_85.2.2.2.2.2.2.2.2.2.2.1
theorem f49_104 : zf 49 104 = some (.getfield 73) := cf49_85.2.2.2.2.2.2.2.2.2.2.2.1
theorem f49_107 : zf 49 107 = some (.iload_n 1) := cf49_85.2.2.2.2.2.2.2.2.2.2.2.2.1
theorem f49_108 : zf 49 108 = some (.iaload) := cf49_85.2.2.2.2.2.2.2.2.2.2.2.2.2.1
theorem f49_109 : zf 49 109 = some (.aload_n 0) := cf49_85.2.2.2.2.2.2.2.2.2.2.2.2.2.2.1
theorem f49_110 : zf 49 110 = some (.getfield 28) := cf49_85.2.2.2.2.2.2.2.2.2.2.2.2.2.2.2
theorem cf49_113 : zf 49 113 = some (.iload_n 1) ∧ zf 49 114 = some (.iaload) ∧ zf 49 115 = some (.invokevirtual 76) ∧ zf 49 118 = some (.iinc 1 1) ∧ zf 49 121 = some (.goto (-88)) ∧ zf 49 124 = some (.iconst 0) ∧ zf 49 125 = some (.istore_n 1) ∧ zf 49 126 = some (.iload_n 1) ∧ zf 49 127 = some (.aload_n 0) ∧ zf 49 128 = some (.getfield 37) ∧ zf 49 131 = some (.getfield 80) ∧ zf 49 134 = some (.if_icmp .ge 14) ∧ zf 49 137 = some (.aload_n 0) ∧ zf 49 138 = some (.iload_n 1) ∧ zf 49 139 = some (.invokevirtual 83) ∧ zf 49 142 = some (.iinc 1 1) := by decide +kernel
theorem f49_113 : zf 49 113 = some (.iload_n 1) := cf49_113.1
theorem f49_114 : zf 49 114 = some (.iaload) := cf49_113.2.1
theorem f49_115 : zf 49 115 = some (.invokevirtual 76) := cf49_113.2.2.1
theorem f49_118 : zf 49 118 = some (.iinc 1 1) := cf49_113.2.2.2.1
theorem f49_121 : zf 49 121 = some (.goto (-88)) := cf49_113.2.2.2.2.1
theorem f49_124 : zf 49 124 = some (.iconst 0) := cf49_113.2.2.2.2.2.1
theorem f49_125 : zf 49 125 = some (.istore_n 1) := cf49_113.2.2.2.2.2.2.1
theorem f49_126 : zf 49 126 = some (.iload_n 1) := cf49_113.2.2.2.2.2.2.2.1
theorem f49_127 : zf 49 127 = some (.aload_n 0) := cf49_113.2.2.2.2.2.2.2.2.1
theorem f49_128 : zf 49 128 = some (.getfield 37) := cf49_113.2.2.2.2.2.2.2.2.2.1
theorem f49_131 : zf 49 131 = some (.getfield 80) := cf49_113.2.2.2.2.2.2.2.2.2.2.1
theorem f49_134 : zf 49 134 = some (.if_icmp .ge 14) := cf49_113.2.2.2.2.2.2.2.2.2.2.2.1
theorem f49_137 : zf 49 137 = some (.aload_n 0) := cf49_113.2.2.2.2.2.2.2.2.2.2.2.2.1
theorem f49_138 : zf 49 138 = some (.iload_n 1) := cf49_113.2.2.2.2.2.2.2.2.2.2.2.2.2.1
theorem f49_139 : zf 49 139 = some (.invokevirtual 83) := cf49_113.2.2.2.2.2.2.2.2.2.2.2.2.2.2.1
theorem f49_142 : zf 49 142 = some (.iinc 1 1) := cf49_113.2.2.2.2.2.2.2.2.2.2.2.2.2.2.2
theorem cf49_145 : zf 49 145 = some (.goto (-19)) ∧ zf 49 148 = some (.return_) := by decide +kernel
theorem f49_145 : zf 49 145 = some (.goto (-19)) := cf49_145.1
theorem f49_148 : zf 49 148 = some (.return_) := cf49_145.2
theorem cf50_0 : zf 50 0 = some (.aload_n 0) ∧ zf 50 1 = some (.getfield 18) ∧ zf 50 4 = some (.iload_n 1) ∧ zf 50 5 = some (.iaload) ∧ zf 50 6 = some (.istore_n 2) ∧ zf 50 7 = some (.aload_n 0) ∧ zf 50 8 = some (.getfield 12) ∧ zf 50 11 = some (.getfield 87) ∧ zf 50 14 = some (.iload_n 1) ∧ zf 50 15 = some (.laload) ∧ zf 50 16 = some (.lconst 0) ∧ zf 50 17 = some (.lcmp) ∧ zf 50 18 = some (.ifCond .le 7) ∧ zf 50 21 = some (.iconst 1) ∧ zf 50 22 = some (.goto 4) ∧ zf 50 25 = some (.iconst 0) := by decide +kernel
theorem f50_0 : zf 50 0 = some (.aload_n 0) := cf50_0.1
theorem f50_1 : zf 50 1 = some (.getfield 18) := cf50_0.2.1
theorem f50_4 : zf 50 4 = some (.iload_n 1) := cf50_0.2.2.1
theorem f50_5 : zf 50 5 = some (.iaload) := cf50_0.2.2.2.1
theorem f50_6 : zf 50 6 = some (.istore_n 2) := cf50_0.2.2.2.2.1
theorem f50_7 : zf 50 7 = some (.aload_n 0) := cf50_0.2.2.2.2.2.1
theorem f50_8 : zf 50 8 = some (.getfield 12) := cf50_0.2.2.2.2.2.2.1
theorem f50_11 : zf 50 11 = some (.getfield 87) := cf50_0.2.2.2.2.2.2.2.1
theorem f50_14 : zf 50 14 = some (.iload_n 1) := cf50_0.2.2.2.2.2.2.2.2.1
theorem f50_15 : zf 50 15 = some (.laload) := cf50_0.2.2.2.2.2.2.2.2.2.1
theorem f50_16 : zf 50 16 = some (.lconst 0) := cf50_0.2.2.2.2.2.2.2.2.2.2.1
theorem f50_17 : zf 50 17 = some (.lcmp) := cf50_0.2.2.2.2.2.2.2.2.2.2.2.1
theorem f50_18 : zf 50 18 = some (.ifCond .le 7) := cf50_0.2.2.2.2.2.2.2.2.2.2.2.2.1
theorem f50_21 : zf 50 21 = some (.iconst 1) := cf50_0.2.2.2.2.2.2.2.2.2.2.2.2.2.1
theorem f50_22 : zf 50 22 = some (.goto 4) := cf50_0.2.2.2.2.2.2.2.2.2.2.2.2.2.2.1
theorem f50_25 : zf 50 25 = some (.iconst 0) := cf50_0.2.2.2.2.2.2.2.2.2.2.2.2.2.2.2
theorem cf50_26 : zf 50 26 = some (.istore_n 3) ∧ zf 50 27 = some (.iconst 0) ∧ zf 50 28 = some (.istore 4) ∧ zf 50 30 = some (.iload 4) ∧ zf 50 32 = some (.aload_n 0) ∧ zf 50 33 = some (.getfield 37) ∧ zf 50 36 = some (.getfield 61) ∧ zf 50 39 = some (.if_icmp .ge 109) ∧ zf 50 42 = some (.aload_n 0) ∧ zf 50 43 = some (.getfield 37) ∧ zf 50 46 = some (.getfield 64) ∧ zf 50 49 = some (.iload 4) ∧ zf 50 51 = some (.iaload) ∧ zf 50 52 = some (.iload_n 1) ∧ zf 50 53 = some (.if_icmp .ne 89) ∧ zf 50 56 = some (.iload_n 3) := by decide +kernel
theorem f50_26 : zf 50 26 = some (.istore_n 3) := cf50_26.1
theorem f50_27 : zf 50 27 = some (.iconst 0) := cf50_26.2.1
theorem f50_28 : zf 50 28 = some (.istore 4) := cf50_26.2.2.1
theorem f50_30 : zf 50 30 = some (.iload 4) := cf50_26.2.2.2.1
theorem f50_32 : zf 50 32 = some (.aload_n 0) := cf50_26.2.2.2.2.1
theorem f50_33 : zf 50 33 = some (.getfield 37) := cf50_26.2.2.2.2.2.1
theorem f50_36 : zf 50 36 = some (.getfield 61) := cf50_26.2.2.2.2.2.2.1
theorem f50_39 : zf 50 39 = some (.if_icmp .ge 109) := cf50_26.2.2.2.2.2.2.2.1
theorem f50_42 : zf 50 42 = some (.aload_n 0) := cf50_26.2.2.2.2.2.2.2.2.1
theorem f50_43 : zf 50 43 = some (.getfield 37) := cf50_26.2.2.2.2.2.2.2.2.2.1
theorem f50_46 : zf 50 46 = some (.getfield 64) := cf50_26.2.2.2.2.2.2.2.2.2.2.1
theorem f50_49 : zf 50 49 = some (.iload 4) := cf50_26.2.2.2.2.2.2.2.2.2.2.2.1
theorem f50_51 : zf 50 51 = some (.iaload) := cf50_26.2.2.2.2.2.2.2.2.2.2.2.2.1
theorem f50_52 : zf 50 52 = some (.iload_n 1) := cf50_26.2.2.2.2.2.2.2.2.2.2.2.2.2.1
theorem f50_53 : zf 50 53 = some (.if_icmp .ne 89) := cf50_26.2.2.2.2.2.2.2.2.2.2.2.2.2.2.1
theorem f50_56 : zf 50 56 = some (.iload_n 3) := cf50_26.2.2.2.2.2.2.2.2.2.2.2.2.2.2.2
theorem cf50_57 : zf 50 57 = some (.ifCond .eq 16) ∧ zf 50 60 = some (.aload_n 0) ∧ zf 50 61 = some (.getfield 12) ∧ zf 50 64 = some (.getfield 70) ∧ zf 50 67 = some (.iload 4) ∧ zf 50 69 = some (.iaload) ∧ zf 50 70 = some (.goto 17) ∧ zf 50 73 = some (.aload_n 0) ∧ zf 50 74 = some (.getfield 12) ∧ zf 50 77 = some (.getfield 70) ∧ zf 50 80 = some (.iload 4) ∧ zf 50 82 = some (.iaload) ∧ zf 50 83 = some (.iload_n 2) ∧ zf 50 84 = some (.invokestatic 91) ∧ zf 50 87 = some (.istore 5) ∧ zf 50 89 = some (.aload_n 0) := by decide +kernel
theorem f50_57 : zf 50 57 = some (.ifCond .eq 16) := cf50_57.1
theorem f50_60 : zf 50 60 = some (.aload_n 0) := cf50_57.2.1
theorem f50_61 : zf 50 61 = some (.getfield 12) := cf50_57.2.2.1
theorem f50_64 : zf 50 64 = some (.getfield 70) := cf50_57.2.2.2.1
theorem f50_67 : zf 50 67 = some (.iload 4) := cf50_57.2.2.2.2.1
theorem f50_69 : zf 50 69 = some (.iaload) := cf50_57.2.2.2.2.2.1
theorem f50_70 : zf 50 70 = some (.goto 17) := cf50_57.2.2.2.2.2.2.1
theorem f50_73 : zf 50 73 = some (.aload_n 0) := cf50_57.2.2.2.2.2.2.2.1
theorem f50_74 : zf 50 74 = some (.getfield 12) := cf50_57.2.2.2.2.2.2.2.2.1
theorem f50_77 : zf 50 77 = some (.getfield 70) := cf50_57.2.2.2.2.2.2.2.2.2.1
theorem f50_80 : zf 50 80 = some (.iload 4) := cf50_57.2.2.2.2.2.2.2.2.2.2.1
theorem f50_82 : zf 50 82 = some (.iaload) := cf50_57.2.2.2.2.2.2.2.2.2.2.2.1
theorem f50_83 : zf 50 83 = some (.iload_n 2) := cf50_57.2.2.2.2.2.2.2.2.2.2.2.2.1
theorem f50_84 : zf 50 84 = some (.invokestatic 91) := cf50_57.2.2.2.2.2.2.2.2.2.2.2.2.2.1
theorem f50_87 : zf 50 87 = some (.istore 5) := cf50_57.2.2.2.2.2.2.2.2.2.2.2.2.2.2.1
theorem f50_89 : zf 50 89 = some (.aload_n 0) := cf50_57.2.2.2.2.2.2.2.2.2.2.2.2.2.2.2
theorem cf50_90 : zf 50 90 = some (.getfield 28) ∧ zf 50 93 = some (.iload 4) ∧ zf 50 95 = some (.aload_n 0) ∧ zf 50 96 = some (.iload 4) ∧ zf 50 98 = some (.invokevirtual 67) ∧ zf 50 101 = some (.ifCond .eq 8) ∧ zf 50 104 = some (.iload 5) ∧ zf 50 106 = some (.goto 4) ∧ zf 50 109 = some (.iconst 0) ∧ zf 50 110 = some (.iastore) ∧ zf 50 111 = some (.iload_n 2) ∧ zf 50 112 = some (.aload_n 0) ∧ zf 50 113 = some (.getfield 28) ∧ zf 50 116 = some (.iload 4) ∧ zf 50 118 = some (.iaload) ∧ zf 50 119 = some (.isub) := by decide +kernel
theorem f50_90 : zf 50 90 = some (.getfield 28) := cf50_90.1
theorem f50_93 : zf 50 93 = some (.iload 4) := cf50_90.2.1
theorem f50_95 : zf 50 95 = some (.aload_n 0) := cf50_90.2.2.1
theorem f50_96 : zf 50 96 = some (.iload 4) := cf50_90.2.2.2.1
theorem f50_98 : zf 50 98 = some (.invokevirtual 67) := cf50_90.2.2.2.2.1
theorem f50_101 : zf 50 101 = some (.ifCond .eq 8) := cf50_90.2.2.2.2.2.1
theorem f50_104 : zf 50 104 = some (.iload 5) := cf50_90.2.2.2.2.2.2.1
theorem f50_106 : zf 50 106 = some (.goto 4) := cf50_90.2.2.2.2.2.2.2.1
theorem f50_109 : zf 50 109 = some (.iconst 0) := cf50_90.2.2.2.2.2.2.2.2.1
theorem f50_110 : zf 50 110 = some (.iastore) := cf50_90.2.2.2.2.2.2.2.2.2.1
theorem f50_111 : zf 50 111 = some (.iload_n 2) := cf50_90.2.2.2.2.2.2.2.2.2.2.1
theorem f50_112 : zf 50 112 = some (.aload_n 0) := cf50_90.2.2.2.2.2.2.2.2.2.2.2.1
theorem f50_113 : zf 50 113 = some (.getfield 28) := cf50_90.2.2.2.2.2.2.2.2.2.2.2.2.1
theorem f50_116 : zf 50 116 = some (.iload 4) := cf50_90.2.2.2.2.2.2.2.2.2.2.2.2.2.1
theorem f50_118 : zf 50 118 = some (.iaload) := cf50_90.2.2.2.2.2.2.2.2.2.2.2.2.2.2.1
theorem f50_119 : zf 50 119 = some (.isub) := cf50_90.2.2.2.2.2.2.2.2.2.2.2.2.2.2.2
theorem cf50_120 : zf 50 120 = some (.istore_n 2) ∧ zf 50 121 = some (.aload_n 0) ∧ zf 50 122 = some (.aload_n 0) ∧ zf 50 123 = some (.getfield 37) ∧ zf 50 126 = some (.getfield 73) ∧ zf 50 129 = some (.iload 4) ∧ zf 50 131 = some (.iaload) ∧ zf 50 132 = some (.aload_n 0) ∧ zf 50 133 = some (.getfield 28) ∧ zf 50 136 = some (.iload 4) ∧ zf 50 138 = some (.iaload) ∧ zf 50 139 = some (.invokevirtual 76) ∧ zf 50 142 = some (.iinc 4 1) ∧ zf 50 145 = some (.goto (-115)) ∧ zf 50 148 = some (.aload_n 0) ∧ zf 50 149 = some (.getfield 25) := by decide +kernel
theorem f50_120 : zf 50 120 = some (.istore_n 2) := cf50_120.1
theorem f50_121 : zf 50 121 = some (.aload_n 0) := cf50_120.2.1
theorem f50_122 : zf 50 122 = some (.aload_n 0) := cf50_120.2.2.1
theorem f50_123 : zf 50 123 = some (.getfield 37) := cf50_120.2.2.2.1
theorem f50_126 : zf 50 126 = some (.getfield 73) := cf50_120.2.2.2.2.1
theorem f50_129 : zf 50 129 = some (.iload 4) := cf50_120.2.2.2.2.2.1
theorem f50_131 : zf 50 131 = some (.iaload) := cf50_120.2.2.2.2.2.2.1
theorem f50_132 : zf 50 132 = some (.aload_n 0) := cf50_120.2.2.2.2.2.2.2.1
theorem f50_133 : zf 50 133 = some (.getfield 28) := cf50_120.2.2.2.2.2.2.2.2.1
theorem f50_136 : zf 50 136 = some (.iload 4) := cf50_120.2.2.2.2.2.2.2.2.2.1
theorem f50_138 : zf 50 138 = some (.iaload) := cf50_120.2.2.2.2.2.2.2.2.2.2.1
theorem f50_139 : zf 50 139 = some (.invokevirtual 76) := cf50_120.2.2.2.2.2.2.2.2.2.2.2.1
theorem f50_142 : zf 50 142 = some (.iinc 4 1) := cf50_120.2.2.2.2.2.2.2.2.2.2.2.2.1
theorem f50_145 : zf 50 145 = some (.goto (-115)) := cf50_120.2.2.2.2.2.2.2.2.2.2.2.2.2.1
theorem f50_148 : zf 50 148 = some (.aload_n 0) := cf50_120.2.2.2.2.2.2.2.2.2.2.2.2.2.2.1
theorem f50_149 : zf 50 149 = some (.getfield 25) := cf50_120.2.2.2.2.2.2.2.2.2.2.2.2.2.2.2
theorem cf50_152 : zf 50 152 = some (.iload_n 1) ∧ zf 50 153 = some (.aload_n 0) ∧ zf 50 154 = some (.iload_n 1) ∧ zf 50 155 = some (.invokevirtual 97) ∧ zf 50 158 = some (.ifCond .eq 11) ∧ zf 50 161 = some (.iload_n 2) ∧ zf 50 162 = some (.ifCond .le 7) ∧ zf 50 165 = some (.iload_n 2) ∧ zf 50 166 = some (.goto 4) ∧ zf 50 169 = some (.iconst 0) ∧ zf 50 170 = some (.iastore) ∧ zf 50 171 = some (.aload_n 0) ∧ zf 50 172 = some (.getfield 22) ∧ zf 50 175 = some (.iload_n 1) ∧ zf 50 176 = some (.iload_n 2) ∧ zf 50 177 = some (.aload_n 0) := by decide +kernel
theorem f50_152 : zf 50 152 = some (.iload_n 1) := cf50_152.1
theorem f50_153 : zf 50 153 = some (.aload_n 0) := cf50_152.2.1
theorem f50_154 : zf 50 154 = some (.iload_n 1) := cf50_152.2.2.1
theorem f50_155 : zf 50 155 = some (.invokevirtual 97) := cf50_152.2.2.2.1
theorem f50_158 : zf 50 158 = some (.ifCond .eq 11) := cf50_152.2.2.2.2.1
theorem f50_161 : zf 50 161 = some (.iload_n 2) := cf50_152.2.2.2.2.2.1
theorem f50_162 : zf 50 162 = some (.ifCond .le 7) := cf50_152.2.2.2.2.2.2.1
theorem f50_165 : zf 50 165 = some (.iload_n 2) := cf50_152.2.2.2.2.2.2.2.1
theorem f50_166 : zf 50 166 = some (.goto 4) := cf50_152.2.2.2.2.2.2.2.2.1
theorem f50_169 : zf 50 169 = some (.iconst 0) := cf50_152.2.2.2.2.2.2.2.2.2.1
theorem f50_170 : zf 50 170 = some (.iastore) := cf50_152.2.2.2.2.2.2.2.2.2.2.1
theorem f50_171 : zf 50 171 = some (.aload_n 0) := cf50_152.2.2.2.2.2.2.2.2.2.2.2.1
theorem f50_172 : zf 50 172 = some (.getfield 22) := cf50_152.2.2.2.2.2.2.2.2.2.2.2.2.1
theorem f50_175 : zf 50 175 = some (.iload_n 1) := cf50_152.2.2.2.2.2.2.2.2.2.2.2.2.2.1
theorem f50_176 : zf 50 176 = some (.iload_n 2) := cf50_152.2.2.2.2.2.2.2.2.2.2.2.2.2.2.1
theorem f50_177 : zf 50 177 = some (.aload_n 0) := cf50_152.2.2.2.2.2.2.2.2.2.2.2.2.2.2.2
theorem cf50_178 : zf 50 178 = some (.getfield 25) ∧ zf 50 181 = some (.iload_n 1) ∧ zf 50 182 = some (.iaload) ∧ zf 50 183 = some (.isub) ∧ zf 50 184 = some (.iastore) ∧ zf 50 185 = some (.aload_n 0) ∧ zf 50 186 = some (.aload_n 0) ∧ zf 50 187 = some (.getfield 37) ∧ zf 50 190 = some (.getfield 100) ∧ zf 50 193 = some (.iload_n 1) ∧ zf 50 194 = some (.iaload) ∧ zf 50 195 = some (.aload_n 0) ∧ zf 50 196 = some (.getfield 25) ∧ zf 50 199 = some (.iload_n 1) ∧ zf 50 200 = some (.iaload) ∧ zf 50 201 = some (.invokevirtual 76) := by decide +kernel
theorem f50_178 : zf 50 178 = some (.getfield 25) := cf50_178.1
theorem f50_181 : zf 50 181 = some (.iload_n 1) := cf50_178.2.1
theorem f50_182 : zf 50 182 = some (.iaload) := cf50_178.2.2.1
theorem f50_183 : zf 50 183 = some (.isub) := cf50_178.2.2.2.1
theorem f50_184 : zf 50 184 = some (.iastore) := cf50_178.2.2.2.2.1
theorem f50_185 : zf 50 185 = some (.aload_n 0) := cf50_178.2.2.2.2.2.1
theorem f50_186 : zf 50 186 = some (.aload_n 0) := cf50_178.2.2.2.2.2.2.1
theorem f50_187 : zf 50 187 = some (.getfield 37) := cf50_178.2.2.2.2.2.2.2.1
theorem f50_190 : zf 50 190 = some (.getfield 100) := cf50_178.2.2.2.2.2.2.2.2.1
theorem f50_193 : zf 50 193 = some (.iload_n 1) := cf50_178.2.2.2.2.2.2.2.2.2.1
theorem f50_194 : zf 50 194 = some (.iaload) := cf50_178.2.2.2.2.2.2.2.2.2.2.1
theorem f50_195 : zf 50 195 = some (.aload_n 0) := cf50_178.2.2.2.2.2.2.2.2.2.2.2.1
theorem f50_196 : zf 50 196 = some (.getfield 25) := cf50_178.2.2.2.2.2.2.2.2.2.2.2.2.1
theorem f50_199 : zf 50 199 = some (.iload_n 1) := cf50_178.2.2.2.2.2.2.2.2.2.2.2.2.2.1
theorem f50_200 : zf 50 200 = some (.iaload) := cf50_178.2.2.2.2.2.2.2.2.2.2.2.2.2.2.1
theorem f50_201 : zf 50 201 = some (.invokevirtual 76) := cf50_178.2.2.2.2.2.2.2.2.2.2.2.2.2.2.2
theorem f50_204 : zf 50 204 = some (.return_) := by decide +kernel
theorem cf51_0 : zf 51 0 = some (.aload_n 0) ∧ zf 51 1 = some (.getfield 37) ∧ zf 51 4 = some (.iload_n 1) ∧ zf 51 5 = some (.invokevirtual 103) ∧ zf 51 8 = some (.ifCond .eq 16) ∧ zf 51 11 = some (.aload_n 0) ∧ zf 51 12 = some (.getfield 18) ∧ zf 51 15 = some (.iload_n 1) ∧ zf 51 16 = some (.dup2) ∧ zf 51 17 = some (.iaload) ∧ zf 51 18 = some (.iload_n 2) ∧ zf 51 19 = some (.iadd) ∧ zf 51 20 = some (.iastore) ∧ zf 51 21 = some (.goto 13) ∧ zf 51 24 = some (.aload_n 0) ∧ zf 51 25 = some (.dup) := by decide +kernel
theorem f51_0 : zf 51 0 = some (.aload_n 0) := cf51_0.1
theorem f51_1 : zf 51 1 = some (.getfield 37) := cf51_0.2.1
theorem f51_4 : zf 51 4 = some (.iload_n 1) := cf51_0.2.2.1
theorem f51_5 : zf 51 5 = some (.invokevirtual 103) := cf51_0.2.2.2.1
theorem f51_8 : zf 51 8 = some (.ifCond .eq 16) := cf51_0.2.2.2.2.1
theorem f51_11 : zf 51 11 = some (.aload_n 0) := cf51_0.2.2.2.2.2.1
theorem f51_12 : zf 51 12 = some (.getfield 18) := cf51_0.2.2.2.2.2.2.1
theorem f51_15 : zf 51 15 = some (.iload_n 1) := cf51_0.2.2.2.2.2.2.2.1
theorem f51_16 : zf 51 16 = some (.dup2) := cf51_0.2.2.2.2.2.2.2.2.1
theorem f51_17 : zf 51 17 = some (.iaload) := cf51_0.2.2.2.2.2.2.2.2.2.1
theorem f51_18 : zf 51 18 = some (.iload_n 2) := cf51_0.2.2.2.2.2.2.2.2.2.2.1
theorem f51_19 : zf 51 19 = some (.iadd) := cf51_0.2.2.2.2.2.2.2.2.2.2.2.1
theorem f51_20 : zf 51 20 = some (.iastore) := cf51_0.2.2.2.2.2.2.2.2.2.2.2.2.1
theorem f51_21 : zf 51 21 = some (.goto 13) := cf51_0.2.2.2.2.2.2.2.2.2.2.2.2.2.1
theorem f51_24 : zf 51 24 = some (.aload_n 0) := cf51_0.2.2.2.2.2.2.2.2.2.2.2.2.2.2.1
theorem f51_25 : zf 51 25 = some (.dup) := cf51_0.2.2.2.2.2.2.2.2.2.2.2.2.2.2.2
theorem cf51_26 : zf 51 26 = some (.getfield 58) ∧ zf 51 29 = some (.iload_n 2) ∧ zf 51 30 = some (.iadd) ∧ zf 51 31 = some (.putfield 58) ∧ zf 51 34 = some (.return_) := by decide +kernel
theorem f51_26 : zf 51 26 = some (.getfield 58) := cf51_26.1
theorem f51_29 : zf 51 29 = some (.iload_n 2) := cf51_26.2.1
theorem f51_30 : zf 51 30 = some (.iadd) := cf51_26.2.2.1
theorem f51_31 : zf 51 31 = some (.putfield 58) := cf51_26.2.2.2.1
theorem f51_34 : zf 51 34 = some (.return_) := cf51_26.2.2.2.2
theorem cf52_0 : zf 52 0 = some (.aload_n 0) ∧ zf 52 1 = some (.getfield 12) ∧ zf 52 4 = some (.getfield 87) ∧ zf 52 7 = some (.iload_n 1) ∧ zf 52 8 = some (.laload) ∧ zf 52 9 = some (.aload_n 0) ∧ zf 52 10 = some (.getfield 37) ∧ zf 52 13 = some (.getfield 106) ∧ zf 52 16 = some (.iload_n 1) ∧ zf 52 17 = some (.iaload) ∧ zf 52 18 = some (.i2l) ∧ zf 52 19 = some (.aload_n 0) ∧ zf 52 20 = some (.getfield 12) ∧ zf 52 23 = some (.getfield 109) ∧ zf 52 26 = some (.lmul) ∧ zf 52 27 = some (.lcmp) := by decide +kernel
theorem f52_0 : zf 52 0 = some (.aload_n 0) := cf52_0.1
theorem f52_1 : zf 52 1 = some (.getfield 12) := cf52_0.2.1
theorem f52_4 : zf 52 4 = some (.getfield 87) := cf52_0.2.2.1
theorem f52_7 : zf 52 7 = some (.iload_n 1) := cf52_0.2.2.2.1
theorem f52_8 : zf 52 8 = some (.laload) := cf52_0.2.2.2.2.1
theorem f52_9 : zf 52 9 = some (.aload_n 0) := cf52_0.2.2.2.2.2.1
theorem f52_10 : zf 52 10 = some (.getfield 37) := cf52_0.2.2.2.2.2.2.1
theorem f52_13 : zf 52 13 = some (.getfield 106) := cf52_0.2.2.2.2.2.2.2.1
theorem f52_16 : zf 52 16 = some (.iload_n 1) := cf52_0.2.2.2.2.2.2.2.2.1
theorem f52_17 : zf 52 17 = some (.iaload) := cf52_0.2.2.2.2.2.2.2.2.2.1
theorem f52_18 : zf 52 18 = some (.i2l) := cf52_0.2.2.2.2.2.2.2.2.2.2.1
theorem f52_19 : zf 52 19 = some (.aload_n 0) := cf52_0.2.2.2.2.2.2.2.2.2.2.2.1
theorem f52_20 : zf 52 20 = some (.getfield 12) := cf52_0.2.2.2.2.2.2.2.2.2.2.2.2.1
theorem f52_23 : zf 52 23 = some (.getfield 109) := cf52_0.2.2.2.2.2.2.2.2.2.2.2.2.2.1
theorem f52_26 : zf 52 26 = some (.lmul) := cf52_0.2.2.2.2.2.2.2.2.2.2.2.2.2.2.1
theorem f52_27 : zf 52 27 = some (.lcmp) := cf52_0.2.2.2.2.2.2.2.2.2.2.2.2.2.2.2
theorem cf52_28 : zf 52 28 = some (.ifCond .lt 7) ∧ zf 52 31 = some (.iconst 1) ∧ zf 52 32 = some (.goto 4) ∧ zf 52 35 = some (.iconst 0) ∧ zf 52 36 = some (.ireturn) := by decide +kernel
theorem f52_28 : zf 52 28 = some (.ifCond .lt 7) := cf52_28.1
theorem f52_31 : zf 52 31 = some (.iconst 1) := cf52_28.2.1
theorem f52_32 : zf 52 32 = some (.goto 4) := cf52_28.2.2.1
theorem f52_35 : zf 52 35 = some (.iconst 0) := cf52_28.2.2.2.1
theorem f52_36 : zf 52 36 = some (.ireturn) := cf52_28.2.2.2.2
theorem cf53_0 : zf 53 0 = some (.aload_n 0) ∧ zf 53 1 = some (.invokevirtual 113) ∧ zf 53 4 = some (.aload_n 0) ∧ zf 53 5 = some (.lconst 0) ∧ zf 53 6 = some (.putfield 116) ∧ zf 53 9 = some (.aload_n 0) ∧ zf 53 10 = some (.lconst 0) ∧ zf 53 11 = some (.putfield 119) ∧ zf 53 14 = some (.iconst 0) ∧ zf 53 15 = some (.istore_n 1) ∧ zf 53 16 = some (.iload_n 1) ∧ zf 53 17 = some (.aload_n 0) ∧ zf 53 18 = some (.getfield 37) ∧ zf 53 21 = some (.getfield 80) ∧ zf 53 24 = some (.if_icmp .ge 40) ∧ zf 53 27 = some (.aload_n 0) := by decide +kernel
theorem f53_0 : zf 53 0 = some (.aload_n 0) := cf53_0.1
theorem f53_1 : zf 53 1 = some (.invokevirtual 113) := cf53_0.2.1
theorem f53_4 : zf 53 4 = some (.aload_n 0) := cf53_0.2.2.1
theorem f53_5 : zf 53 5 = some (.lconst 0) := cf53_0.2.2.2.1
theorem f53_6 : zf 53 6 = some (.putfield 116) := cf53_0.2.2.2.2.1
theorem f53_9 : zf 53 9 = some (.aload_n 0) := cf53_0.2.2.2.2.2.1
theorem f53_10 : zf 53 10 = some (.lconst 0) := cf53_0.2.2.2.2.2.2.1
theorem f53_11 : zf 53 11 = some (.putfield 119) := cf53_0.2.2.2.2.2.2.2.1
theorem f53_14 : zf 53 14 = some (.iconst 0) := cf53_0.2.2.2.2.2.2.2.2.1
theorem f53_15 : zf 53 15 = some (.istore_n 1) := cf53_0.2.2.2.2.2.2.2.2.2.1
theorem f53_16 : zf 53 16 = some (.iload_n 1) := cf53_0.2.2.2.2.2.2.2.2.2.2.1
theorem f53_17 : zf 53 17 = some (.aload_n 0) := cf53_0.2.2.2.2.2.2.2.2.2.2.2.1
theorem f53_18 : zf 53 18 = some (.getfield 37) := cf53_0.2.2.2.2.2.2.2.2.2.2.2.2.1
theorem f53_21 : zf 53 21 = some (.getfield 80) := cf53_0.2.2.2.2.2.2.2.2.2.2.2.2.2.1
theorem f53_24 : zf 53 24 = some (.if_icmp .ge 40) := cf53_0.2.2.2.2.2.2.2.2.2.2.2.2.2.2.1
theorem f53_27 : zf 53 27 = some (.aload_n 0) := cf53_0.2.2.2.2.2.2.2.2.2.2.2.2.2.2.2
theorem cf53_28 : zf 53 28 = some (.getfield 22) ∧ zf 53 31 = some (.iload_n 1) ∧ zf 53 32 = some (.iaload) ∧ zf 53 33 = some (.ifCond .le 11) ∧ zf 53 36 = some (.aload_n 0) ∧ zf 53 37 = some (.iload_n 1) ∧ zf 53 38 = some (.invokevirtual 122) ∧ zf 53 41 = some (.goto 17) ∧ zf 53 44 = some (.aload_n 0) ∧ zf 53 45 = some (.getfield 22) ∧ zf 53 48 = some (.iload_n 1) ∧ zf 53 49 = some (.iaload) ∧ zf 53 50 = some (.ifCond .ge 8) ∧ zf 53 53 = some (.aload_n 0) ∧ zf 53 54 = some (.iload_n 1) ∧ zf 53 55 = some (.invokevirtual 125) := by decide +kernel
theorem f53_28 : zf 53 28 = some (.getfield 22) := cf53_28.1
theorem f53_31 : zf 53 31 = some (.iload_n 1) := cf53_28.2.1
theorem f53_32 : zf 53 32 = some (.iaload) := cf53_28.2.2.1
theorem f53_33 : zf 53 33 = some (.ifCond .le 11) := cf53_28.2.2.2.1
theorem f53_36 : zf 53 36 = some (.aload_n 0) := cf53_28.2.2.2.2.1
theorem f53_37 : zf 53 37 = some (.iload_n 1) := cf53_28.2.2.2.2.2.1
theorem f53_38 : zf 53 38 = some (.invokevirtual 122) := cf53_28.2.2.2.2.2.2.1
theorem f53_41 : zf 53 41 = some (.goto 17) := cf53_28.2.2.2.2.2.2.2.1
theorem f53_44 : zf 53 44 = some (.aload_n 0) := cf53_28.2.2.2.2.2.2.2.2.1
theorem f53_45 : zf 53 45 = some (.getfield 22) := cf53_28.2.2.2.2.2.2.2.2.2.1
theorem f53_48 : zf 53 48 = some (.iload_n 1) := cf53_28.2.2.2.2.2.2.2.2.2.2.1
theorem f53_49 : zf 53 49 = some (.iaload) := cf53_28.2.2.2.2.2.2.2.2.2.2.2.1
theorem f53_50 : zf 53 50 = some (.ifCond .ge 8) := cf53_28.2.2.2.2.2.2.2.2.2.2.2.2.1
theorem f53_53 : zf 53 53 = some (.aload_n 0) := cf53_28.2.2.2.2.2.2.2.2.2.2.2.2.2.1
theorem f53_54 : zf 53 54 = some (.iload_n 1) := cf53_28.2.2.2.2.2.2.2.2.2.2.2.2.2.2.1
theorem f53_55 : zf 53 55 = some (.invokevirtual 125) := cf53_28.2.2.2.2.2.2.2.2.2.2.2.2.2.2.2
theorem cf53_58 : zf 53 58 = some (.iinc 1 1) ∧ zf 53 61 = some (.goto (-45)) ∧ zf 53 64 = some (.return_) := by decide +kernel
theorem f53_58 : zf 53 58 = some (.iinc 1 1) := cf53_58.1
theorem f53_61 : zf 53 61 = some (.goto (-45)) := cf53_58.2.1
theorem f53_64 : zf 53 64 = some (.return_) := cf53_58.2.2
theorem cf54_0 : zf 54 0 = some (.aload_n 0) ∧ zf 54 1 = some (.aload_n 0) ∧ zf 54 2 = some (.getfield 37) ∧ zf 54 5 = some (.getfield 106) ∧ zf 54 8 = some (.iload_n 1) ∧ zf 54 9 = some (.iaload) ∧ zf 54 10 = some (.i2l) ∧ zf 54 11 = some (.aload_n 0) ∧ zf 54 12 = some (.getfield 12) ∧ zf 54 15 = some (.getfield 109) ∧ zf 54 18 = some (.lmul) ∧ zf 54 19 = some (.aload_n 0) ∧ zf 54 20 = some (.getfield 12) ∧ zf 54 23 = some (.getfield 87) ∧ zf 54 26 = some (.iload_n 1) ∧ zf 54 27 = some (.laload) := by decide +kernel
theorem f54_0 : zf 54 0 = some (.aload_n 0) := cf54_0.1
theorem f54_1 : zf 54 1 = some (.aload_n 0) := cf54_0.2.1
theorem f54_2 : zf 54 2 = some (.getfield 37) := cf54_0.2.2.1
theorem f54_5 : zf 54 5 = some (.getfield 106) := cf54_0.2.2.2.1
theorem f54_8 : zf 54 8 = some (.iload_n 1) := cf54_0.2.2.2.2.1
theorem f54_9 : zf 54 9 = some (.iaload) := cf54_0.2.2.2.2.2.1
theorem f54_10 : zf 54 10 = some (.i2l) := cf54_0.2.2.2.2.2.2.1
theorem f54_11 : zf 54 11 = some (.aload_n 0) := cf54_0.2.2.2.2.2.2.2.1
theorem f54_12 : zf 54 12 = some (.getfield 12) := cf54_0.2.2.2.2.2.2.2.2.1
theorem f54_15 : zf 54 15 = some (.getfield 109) := cf54_0.2.2.2.2.2.2.2.2.2.1
theorem f54_18 : zf 54 18 = some (.lmul) := cf54_0.2.2.2.2.2.2.2.2.2.2.1
theorem f54_19 : zf 54 19 = some (.aload_n 0) := cf54_0.2.2.2.2.2.2.2.2.2.2.2.1
theorem f54_20 : zf 54 20 = some (.getfield 12) := cf54_0.2.2.2.2.2.2.2.2.2.2.2.2.1
theorem f54_23 : zf 54 23 = some (.getfield 87) := cf54_0.2.2.2.2.2.2.2.2.2.2.2.2.2.1
theorem f54_26 : zf 54 26 = some (.iload_n 1) := cf54_0.2.2.2.2.2.2.2.2.2.2.2.2.2.2.1
theorem f54_27 : zf 54 27 = some (.laload) := cf54_0.2.2.2.2.2.2.2.2.2.2.2.2.2.2.2
theorem cf54_28 : zf 54 28 = some (.lsub) ∧ zf 54 29 = some (.aload_n 0) ∧ zf 54 30 = some (.getfield 22) ∧ zf 54 33 = some (.iload_n 1) ∧ zf 54 34 = some (.iaload) ∧ zf 54 35 = some (.i2l) ∧ zf 54 36 = some (.invokevirtual 128) ∧ zf 54 39 = some (.aload_n 0) ∧ zf 54 40 = some (.getfield 37) ∧ zf 54 43 = some (.iload_n 1) ∧ zf 54 44 = some (.invokevirtual 132) ∧ zf 54 47 = some (.iconst 1) ∧ zf 54 48 = some (.if_icmp .ne 22) ∧ zf 54 51 = some (.aload_n 0) ∧ zf 54 52 = some (.getfield 12) ∧ zf 54 55 = some (.iload_n 1) := by decide +kernel
theorem f54_28 : zf 54 28 = some (.lsub) := cf54_28.1
theorem f54_29 : zf 54 29 = some (.aload_n 0) := cf54_28.2.1
theorem f54_30 : zf 54 30 = some (.getfield 22) := cf54_28.2.2.1
theorem f54_33 : zf 54 33 = some (.iload_n 1) := cf54_28.2.2.2.1
theorem f54_34 : zf 54 34 = some (.iaload) := cf54_28.2.2.2.2.1
theorem f54_35 : zf 54 35 = some (.i2l) := cf54_28.2.2.2.2.2.1
theorem f54_36 : zf 54 36 = some (.invokevirtual 128) := cf54_28.2.2.2.2.2.2.1
theorem f54_39 : zf 54 39 = some (.aload_n 0) := cf54_28.2.2.2.2.2.2.2.1
theorem f54_40 : zf 54 40 = some (.getfield 37) := cf54_28.2.2.2.2.2.2.2.2.1
theorem f54_43 : zf 54 43 = some (.iload_n 1) := cf54_28.2.2.2.2.2.2.2.2.2.1
theorem f54_44 : zf 54 44 = some (.invokevirtual 132) := cf54_28.2.2.2.2.2.2.2.2.2.2.1
theorem f54_47 : zf 54 47 = some (.iconst 1) := cf54_28.2.2.2.2.2.2.2.2.2.2.2.1
theorem f54_48 : zf 54 48 = some (.if_icmp .ne 22) := cf54_28.2.2.2.2.2.2.2.2.2.2.2.2.1
theorem f54_51 : zf 54 51 = some (.aload_n 0) := cf54_28.2.2.2.2.2.2.2.2.2.2.2.2.2.1
theorem f54_52 : zf 54 52 = some (.getfield 12) := cf54_28.2.2.2.2.2.2.2.2.2.2.2.2.2.2.1
theorem f54_55 : zf 54 55 = some (.iload_n 1) := cf54_28.2.2.2.2.2.2.2.2.2.2.2.2.2.2.2
theorem cf54_56 : zf 54 56 = some (.invokevirtual 51) ∧ zf 54 59 = some (.ifCond .ne 7) ∧ zf 54 62 = some (.iconst 1) ∧ zf 54 63 = some (.goto 13) ∧ zf 54 66 = some (.iconst 0) ∧ zf 54 67 = some (.goto 9) ∧ zf 54 70 = some (.aload_n 0) ∧ zf 54 71 = some (.iload_n 1) ∧ zf 54 72 = some (.iconst 1) ∧ zf 54 73 = some (.invokevirtual 135) ∧ zf 54 76 = some (.istore_n 2) ∧ zf 54 77 = some (.iload_n 2) ∧ zf 54 78 = some (.ifCond .eq 42) ∧ zf 54 81 = some (.aload_n 0) ∧ zf 54 82 = some (.aload_n 0) ∧ zf 54 83 = some (.getfield 37) := by decide +kernel
theorem f54_56 : zf 54 56 = some (.invokevirtual 51) := cf54_56.1
theorem f54_59 : zf 54 59 = some (.ifCond .ne 7) := cf54_56.2.1
theorem f54_62 : zf 54 62 = some (.iconst 1) := cf54_56.2.2.1
theorem f54_63 : zf 54 63 = some (.goto 13) := cf54_56.2.2.2.1
theorem f54_66 : zf 54 66 = some (.iconst 0) := cf54_56.2.2.2.2.1
theorem f54_67 : zf 54 67 = some (.goto 9) := cf54_56.2.2.2.2.2.1
theorem f54_70 : zf 54 70 = some (.aload_n 0) := cf54_56.2.2.2.2.2.2.1
theorem f54_71 : zf 54 71 = some (.iload_n 1) := cf54_56.2.2.2.2.2.2.2.1
theorem f54_72 : zf 54 72 = some (.iconst 1) := cf54_56.2.2.2.2.2.2.2.2.1
theorem f54_73 : zf 54 73 = some (.invokevirtual 135) := cf54_56.2.2.2.2.2.2.2.2.2.1
theorem f54_76 : zf 54 76 = some (.istore_n 2) := cf54_56.2.2.2.2.2.2.2.2.2.2.1
theorem f54_77 : zf 54 77 = some (.iload_n 2) := cf54_56.2.2.2.2.2.2.2.2.2.2.2.1
theorem f54_78 : zf 54 78 = some (.ifCond .eq 42) := cf54_56.2.2.2.2.2.2.2.2.2.2.2.2.1
theorem f54_81 : zf 54 81 = some (.aload_n 0) := cf54_56.2.2.2.2.2.2.2.2.2.2.2.2.2.1
theorem f54_82 : zf 54 82 = some (.aload_n 0) := cf54_56.2.2.2.2.2.2.2.2.2.2.2.2.2.2.1
theorem f54_83 : zf 54 83 = some (.getfield 37) := cf54_56.2.2.2.2.2.2.2.2.2.2.2.2.2.2.2
theorem cf54_86 : zf 54 86 = some (.getfield 139) ∧ zf 54 89 = some (.iload_n 1) ∧ zf 54 90 = some (.iaload) ∧ zf 54 91 = some (.i2l) ∧ zf 54 92 = some (.aload_n 0) ∧ zf 54 93 = some (.getfield 12) ∧ zf 54 96 = some (.getfield 109) ∧ zf 54 99 = some (.lmul) ∧ zf 54 100 = some (.aload_n 0) ∧ zf 54 101 = some (.getfield 12) ∧ zf 54 104 = some (.getfield 87) ∧ zf 54 107 = some (.iload_n 1) ∧ zf 54 108 = some (.laload) ∧ zf 54 109 = some (.lsub) ∧ zf 54 110 = some (.aload_n 0) ∧ zf 54 111 = some (.getfield 22) := by decide +kernel
theorem f54_86 : zf 54 86 = some (.getfield 139) := cf54_86.1
theorem f54_89 : zf 54 89 = some (.iload_n 1) := cf54_86.2.1
theorem f54_90 : zf 54 90 = some (.iaload) := cf54_86.2.2.1
theorem f54_91 : zf 54 91 = some (.i2l) := cf54_86.2.2.2.1
theorem f54_92 : zf 54 92 = some (.aload_n 0) := cf54_86.2.2.2.2.1
theorem f54_93 : zf 54 93 = some (.getfield 12) := cf54_86.2.2.2.2.2.1
theorem f54_96 : zf 54 96 = some (.getfield 109) := cf54_86.2.2.2.2.2.2.1
theorem f54_99 : zf 54 99 = some (.lmul) := cf54_86.2.2.2.2.2.2.2.1
theorem f54_100 : zf 54 100 = some (.aload_n 0) := cf54_86.2.2.2.2.2.2.2.2.1
theorem f54_101 : zf 54 101 = some (.getfield 12) := cf54_86.2.2.2.2.2.2.2.2.2.1
theorem f54_104 : zf 54 104 = some (.getfield 87) := cf54_86.2.2.2.2.2.2.2.2.2.2.1
theorem f54_107 : zf 54 107 = some (.iload_n 1) := cf54_86.2.2.2.2.2.2.2.2.2.2.2.1
theorem f54_108 : zf 54 108 = some (.laload) := cf54_86.2.2.2.2.2.2.2.2.2.2.2.2.1
theorem f54_109 : zf 54 109 = some (.lsub) := cf54_86.2.2.2.2.2.2.2.2.2.2.2.2.2.1
theorem f54_110 : zf 54 110 = some (.aload_n 0) := cf54_86.2.2.2.2.2.2.2.2.2.2.2.2.2.2.1
theorem f54_111 : zf 54 111 = some (.getfield 22) := cf54_86.2.2.2.2.2.2.2.2.2.2.2.2.2.2.2
theorem cf54_114 : zf 54 114 = some (.iload_n 1) ∧ zf 54 115 = some (.iaload) ∧ zf 54 116 = some (.i2l) ∧ zf 54 117 = some (.invokevirtual 128) ∧ zf 54 120 = some (.return_) := by decide +kernel
theorem f54_114 : zf 54 114 = some (.iload_n 1) := cf54_114.1
theorem f54_115 : zf 54 115 = some (.iaload) := cf54_114.2.1
theorem f54_116 : zf 54 116 = some (.i2l) := cf54_114.2.2.1
theorem f54_117 : zf 54 117 = some (.invokevirtual 128) := cf54_114.2.2.2.1
theorem f54_120 : zf 54 120 = some (.return_) := cf54_114.2.2.2.2
theorem cf55_0 : zf 55 0 = some (.aload_n 0) ∧ zf 55 1 = some (.aload_n 0) ∧ zf 55 2 = some (.getfield 12) ∧ zf 55 5 = some (.getfield 87) ∧ zf 55 8 = some (.iload_n 1) ∧ zf 55 9 = some (.laload) ∧ zf 55 10 = some (.aload_n 0) ∧ zf 55 11 = some (.getfield 22) ∧ zf 55 14 = some (.iload_n 1) ∧ zf 55 15 = some (.iaload) ∧ zf 55 16 = some (.ineg) ∧ zf 55 17 = some (.i2l) ∧ zf 55 18 = some (.invokevirtual 128) ∧ zf 55 21 = some (.aload_n 0) ∧ zf 55 22 = some (.iload_n 1) ∧ zf 55 23 = some (.iconst 0) := by decide +kernel
theorem f55_0 : zf 55 0 = some (.aload_n 0) := cf55_0.1
theorem f55_1 : zf 55 1 = some (.aload_n 0) := cf55_0.2.1
theorem f55_2 : zf 55 2 = some (.getfield 12) := cf55_0.2.2.1
theorem f55_5 : zf 55 5 = some (.getfield 87) := cf55_0.2.2.2.1
theorem f55_8 : zf 55 8 = some (.iload_n 1) := cf55_0.2.2.2.2.1
theorem f55_9 : zf 55 9 = some (.laload) := cf55_0.2.2.2.2.2.1
theorem f55_10 : zf 55 10 = some (.aload_n 0) := cf55_0.2.2.2.2.2.2.1
theorem f55_11 : zf 55 11 = some (.getfield 22) := cf55_0.2.2.2.2.2.2.2.1
theorem f55_14 : zf 55 14 = some (.iload_n 1) := cf55_0.2.2.2.2.2.2.2.2.1
theorem f55_15 : zf 55 15 = some (.iaload) := cf55_0.2.2.2.2.2.2.2.2.2.1
theorem f55_16 : zf 55 16 = some (.ineg) := cf55_0.2.2.2.2.2.2.2.2.2.2.1
theorem f55_17 : zf 55 17 = some (.i2l) := cf55_0.2.2.2.2.2.2.2.2.2.2.2.1
theorem f55_18 : zf 55 18 = some (.invokevirtual 128) := cf55_0.2.2.2.2.2.2.2.2.2.2.2.2.1
theorem f55_21 : zf 55 21 = some (.aload_n 0) := cf55_0.2.2.2.2.2.2.2.2.2.2.2.2.2.1
theorem f55_22 : zf 55 22 = some (.iload_n 1) := cf55_0.2.2.2.2.2.2.2.2.2.2.2.2.2.2.1
theorem f55_23 : zf 55 23 = some (.iconst 0) := cf55_0.2.2.2.2.2.2.2.2.2.2.2.2.2.2.2
theorem cf55_24 : zf 55 24 = some (.invokevirtual 135) ∧ zf 55 27 = some (.ifCond .eq 43) ∧ zf 55 30 = some (.aload_n 0) ∧ zf 55 31 = some (.aload_n 0) ∧ zf 55 32 = some (.getfield 12) ∧ zf 55 35 = some (.getfield 87) ∧ zf 55 38 = some (.iload_n 1) ∧ zf 55 39 = some (.laload) ∧ zf 55 40 = some (.aload_n 0) ∧ zf 55 41 = some (.getfield 37) ∧ zf 55 44 = some (.getfield 142) ∧ zf 55 47 = some (.iload_n 1) ∧ zf 55 48 = some (.iaload) ∧ zf 55 49 = some (.i2l) ∧ zf 55 50 = some (.aload_n 0) ∧ zf 55 51 = some (.getfield 12) := by decide +kernel
theorem f55_24 : zf 55 24 = some (.invokevirtual 135) := cf55_24.1
theorem f55_27 : zf 55 27 = some (.ifCond .eq 43) := cf55_24.2.1
theorem f55_30 : zf 55 30 = some (.aload_n 0) := cf55_24.2.2.1
theorem f55_31 : zf 55 31 = some (.aload_n 0) := cf55_24.2.2.2.1
theorem f55_32 : zf 55 32 = some (.getfield 12) := cf55_24.2.2.2.2.1
theorem f55_35 : zf 55 35 = some (.getfield 87) := cf55_24.2.2.2.2.2.1
theorem f55_38 : zf 55 38 = some (.iload_n 1) := cf55_24.2.2.2.2.2.2.1
theorem f55_39 : zf 55 39 = some (.laload) := cf55_24.2.2.2.2.2.2.2.1
theorem f55_40 : zf 55 40 = some (.aload_n 0) := cf55_24.2.2.2.2.2.2.2.2.1
theorem f55_41 : zf 55 41 = some (.getfield 37) := cf55_24.2.2.2.2.2.2.2.2.2.1
theorem f55_44 : zf 55 44 = some (.getfield 142) := cf55_24.2.2.2.2.2.2.2.2.2.2.1
theorem f55_47 : zf 55 47 = some (.iload_n 1) := cf55_24.2.2.2.2.2.2.2.2.2.2.2.1
theorem f55_48 : zf 55 48 = some (.iaload) := cf55_24.2.2.2.2.2.2.2.2.2.2.2.2.1
theorem f55_49 : zf 55 49 = some (.i2l) := cf55_24.2.2.2.2.2.2.2.2.2.2.2.2.2.1
theorem f55_50 : zf 55 50 = some (.aload_n 0) := cf55_24.2.2.2.2.2.2.2.2.2.2.2.2.2.2.1
theorem f55_51 : zf 55 51 = some (.getfield 12) := cf55_24.2.2.2.2.2.2.2.2.2.2.2.2.2.2.2
theorem cf55_54 : zf 55 54 = some (.getfield 109) ∧ zf 55 57 = some (.lmul) ∧ zf 55 58 = some (.lsub) ∧ zf 55 59 = some (.aload_n 0) ∧ zf 55 60 = some (.getfield 22) ∧ zf 55 63 = some (.iload_n 1) ∧ zf 55 64 = some (.iaload) ∧ zf 55 65 = some (.ineg) ∧ zf 55 66 = some (.i2l) ∧ zf 55 67 = some (.invokevirtual 128) ∧ zf 55 70 = some (.return_) := by decide +kernel
theorem f55_54 : zf 55 54 = some (.getfield 109) := cf55_54.1
theorem f55_57 : zf 55 57 = some (.lmul) := cf55_54.2.1
theorem f55_58 : zf 55 58 = some (.lsub) := cf55_54.2.2.1
theorem f55_59 : zf 55 59 = some (.aload_n 0) := cf55_54.2.2.2.1
theorem f55_60 : zf 55 60 = some (.getfield 22) := cf55_54.2.2.2.2.1
theorem f55_63 : zf 55 63 = some (.iload_n 1) := cf55_54.2.2.2.2.2.1
theorem f55_64 : zf 55 64 = some (.iaload) := cf55_54.2.2.2.2.2.2.1
theorem f55_65 : zf 55 65 = some (.ineg) := cf55_54.2.2.2.2.2.2.2.1
theorem f55_66 : zf 55 66 = some (.i2l) := cf55_54.2.2.2.2.2.2.2.2.1
theorem f55_67 : zf 55 67 = some (.invokevirtual 128) := cf55_54.2.2.2.2.2.2.2.2.2.1
theorem f55_70 : zf 55 70 = some (.return_) := cf55_54.2.2.2.2.2.2.2.2.2.2
theorem cf56_0 : zf 56 0 = some (.aload_n 0) ∧ zf 56 1 = some (.getfield 37) ∧ zf 56 4 = some (.iload_n 1) ∧ zf 56 5 = some (.invokevirtual 145) ∧ zf 56 8 = some (.ifCond .eq 15) ∧ zf 56 11 = some (.aload_n 0) ∧ zf 56 12 = some (.getfield 37) ∧ zf 56 15 = some (.getfield 148) ∧ zf 56 18 = some (.iload_n 1) ∧ zf 56 19 = some (.iaload) ∧ zf 56 20 = some (.goto 4) ∧ zf 56 23 = some (.iconst (-1)) ∧ zf 56 24 = some (.istore_n 3) ∧ zf 56 25 = some (.iload_n 3) ∧ zf 56 26 = some (.iconst (-1)) ∧ zf 56 27 = some (.if_icmp .eq 19) := by decide +kernel
theorem f56_0 : zf 56 0 = some (.aload_n 0) := cf56_0.1
theorem f56_1 : zf 56 1 = some (.getfield 37) := cf56_0.2.1
theorem f56_4 : zf 56 4 = some (.iload_n 1) := cf56_0.2.2.1
theorem f56_5 : zf 56 5 = some (.invokevirtual 145) := cf56_0.2.2.2.1
theorem f56_8 : zf 56 8 = some (.ifCond .eq 15) := cf56_0.2.2.2.2.1
theorem f56_11 : zf 56 11 = some (.aload_n 0) := cf56_0.2.2.2.2.2.1
theorem f56_12 : zf 56 12 = some (.getfield 37) := cf56_0.2.2.2.2.2.2.1
theorem f56_15 : zf 56 15 = some (.getfield 148) := cf56_0.2.2.2.2.2.2.2.1
theorem f56_18 : zf 56 18 = some (.iload_n 1) := cf56_0.2.2.2.2.2.2.2.2.1
theorem f56_19 : zf 56 19 = some (.iaload) := cf56_0.2.2.2.2.2.2.2.2.2.1
theorem f56_20 : zf 56 20 = some (.goto 4) := cf56_0.2.2.2.2.2.2.2.2.2.2.1
theorem f56_23 : zf 56 23 = some (.iconst (-1)) := cf56_0.2.2.2.2.2.2.2.2.2.2.2.1
theorem f56_24 : zf 56 24 = some (.istore_n 3) := cf56_0.2.2.2.2.2.2.2.2.2.2.2.2.1
theorem f56_25 : zf 56 25 = some (.iload_n 3) := cf56_0.2.2.2.2.2.2.2.2.2.2.2.2.2.1
theorem f56_26 : zf 56 26 = some (.iconst (-1)) := cf56_0.2.2.2.2.2.2.2.2.2.2.2.2.2.2.1
theorem f56_27 : zf 56 27 = some (.if_icmp .eq 19) := cf56_0.2.2.2.2.2.2.2.2.2.2.2.2.2.2.2
theorem cf56_30 : zf 56 30 = some (.aload_n 0) ∧ zf 56 31 = some (.getfield 12) ∧ zf 56 34 = some (.iload_n 3) ∧ zf 56 35 = some (.invokevirtual 47) ∧ zf 56 38 = some (.iload_n 2) ∧ zf 56 39 = some (.if_icmp .ne 7) ∧ zf 56 42 = some (.iconst 1) ∧ zf 56 43 = some (.goto 4) ∧ zf 56 46 = some (.iconst 0) ∧ zf 56 47 = some (.ireturn) := by decide +kernel
theorem f56_30 : zf 56 30 = some (.aload_n 0) := cf56_30.1
theorem f56_31 : zf 56 31 = some (.getfield 12) := cf56_30.2.1
theorem f56_34 : zf 56 34 = some (.iload_n 3) := cf56_30.2.2.1
theorem f56_35 : zf 56 35 = some (.invokevirtual 47) := cf56_30.2.2.2.1
theorem f56_38 : zf 56 38 = some (.iload_n 2) := cf56_30.2.2.2.2.1
theorem f56_39 : zf 56 39 = some (.if_icmp .ne 7) := cf56_30.2.2.2.2.2.1
theorem f56_42 : zf 56 42 = some (.iconst 1) := cf56_30.2.2.2.2.2.2.1
theorem f56_43 : zf 56 43 = some (.goto 4) := cf56_30.2.2.2.2.2.2.2.1
theorem f56_46 : zf 56 46 = some (.iconst 0) := cf56_30.2.2.2.2.2.2.2.2.1
theorem f56_47 : zf 56 47 = some (.ireturn) := cf56_30.2.2.2.2.2.2.2.2.2
theorem cf57_0 : zf 57 0 = some (.lload_n 1) ∧ zf 57 1 = some (.lconst 0) ∧ zf 57 2 = some (.lcmp) ∧ zf 57 3 = some (.ifCond .le 38) ∧ zf 57 6 = some (.aload_n 0) ∧ zf 57 7 = some (.getfield 119) ∧ zf 57 10 = some (.lconst 0) ∧ zf 57 11 = some (.lcmp) ∧ zf 57 12 = some (.ifCond .eq 19) ∧ zf 57 15 = some (.lload_n 1) ∧ zf 57 16 = some (.aload_n 0) ∧ zf 57 17 = some (.getfield 119) ∧ zf 57 20 = some (.lmul) ∧ zf 57 21 = some (.aload_n 0) ∧ zf 57 22 = some (.getfield 116) ∧ zf 57 25 = some (.lload_n 3) := by decide +kernel
theorem f57_0 : zf 57 0 = some (.lload_n 1) := cf57_0.1
theorem f57_1 : zf 57 1 = some (.lconst 0) := cf57_0.2.1
theorem f57_2 : zf 57 2 = some (.lcmp) := cf57_0.2.2.1
theorem f57_3 : zf 57 3 = some (.ifCond .le 38) := cf57_0.2.2.2.1
theorem f57_6 : zf 57 6 = some (.aload_n 0) := cf57_0.2.2.2.2.1
theorem f57_7 : zf 57 7 = some (.getfield 119) := cf57_0.2.2.2.2.2.1
theorem f57_10 : zf 57 10 = some (.lconst 0) := cf57_0.2.2.2.2.2.2.1
theorem f57_11 : zf 57 11 = some (.lcmp) := cf57_0.2.2.2.2.2.2.2.1
theorem f57_12 : zf 57 12 = some (.ifCond .eq 19) := cf57_0.2.2.2.2.2.2.2.2.1
theorem f57_15 : zf 57 15 = some (.lload_n 1) := cf57_0.2.2.2.2.2.2.2.2.2.1
theorem f57_16 : zf 57 16 = some (.aload_n 0) := cf57_0.2.2.2.2.2.2.2.2.2.2.1
theorem f57_17 : zf 57 17 = some (.getfield 119) := cf57_0.2.2.2.2.2.2.2.2.2.2.2.1
theorem f57_20 : zf 57 20 = some (.lmul) := cf57_0.2.2.2.2.2.2.2.2.2.2.2.2.1
theorem f57_21 : zf 57 21 = some (.aload_n 0) := cf57_0.2.2.2.2.2.2.2.2.2.2.2.2.2.1
theorem f57_22 : zf 57 22 = some (.getfield 116) := cf57_0.2.2.2.2.2.2.2.2.2.2.2.2.2.2.1
theorem f57_25 : zf 57 25 = some (.lload_n 3) := cf57_0.2.2.2.2.2.2.2.2.2.2.2.2.2.2.2
theorem cf57_26 : zf 57 26 = some (.lmul) ∧ zf 57 27 = some (.lcmp) ∧ zf 57 28 = some (.ifCond .ge 13) ∧ zf 57 31 = some (.aload_n 0) ∧ zf 57 32 = some (.lload_n 1) ∧ zf 57 33 = some (.putfield 116) ∧ zf 57 36 = some (.aload_n 0) ∧ zf 57 37 = some (.lload_n 3) ∧ zf 57 38 = some (.putfield 119) ∧ zf 57 41 = some (.return_) := by decide +kernel
theorem f57_26 : zf 57 26 = some (.lmul) := cf57_26.1
theorem f57_27 : zf 57 27 = some (.lcmp) := cf57_26.2.1
theorem f57_28 : zf 57 28 = some (.ifCond .ge 13) := cf57_26.2.2.1
theorem f57_31 : zf 57 31 = some (.aload_n 0) := cf57_26.2.2.2.1
theorem f57_32 : zf 57 32 = some (.lload_n 1) := cf57_26.2.2.2.2.1
theorem f57_33 : zf 57 33 = some (.putfield 116) := cf57_26.2.2.2.2.2.1
theorem f57_36 : zf 57 36 = some (.aload_n 0) := cf57_26.2.2.2.2.2.2.1
theorem f57_37 : zf 57 37 = some (.lload_n 3) := cf57_26.2.2.2.2.2.2.2.1
theorem f57_38 : zf 57 38 = some (.putfield 119) := cf57_26.2.2.2.2.2.2.2.2.1
theorem f57_41 : zf 57 41 = some (.return_) := cf57_26.2.2.2.2.2.2.2.2.2
theorem cf58_0 : zf 58 0 = some (.aload_n 0) ∧ zf 58 1 = some (.getfield 119) ∧ zf 58 4 = some (.lconst 0) ∧ zf 58 5 = some (.lcmp) ∧ zf 58 6 = some (.ifCond .ne 7) ∧ zf 58 9 = some (.iconst 1) ∧ zf 58 10 = some (.goto 4) ∧ zf 58 13 = some (.iconst 0) ∧ zf 58 14 = some (.ireturn) := by decide +kernel
theorem f58_0 : zf 58 0 = some (.aload_n 0) := cf58_0.1
theorem f58_1 : zf 58 1 = some (.getfield 119) := cf58_0.2.1
theorem f58_4 : zf 58 4 = some (.lconst 0) := cf58_0.2.2.1
theorem f58_5 : zf 58 5 = some (.lcmp) := cf58_0.2.2.2.1
theorem f58_6 : zf 58 6 = some (.ifCond .ne 7) := cf58_0.2.2.2.2.1
theorem f58_9 : zf 58 9 = some (.iconst 1) := cf58_0.2.2.2.2.2.1
theorem f58_10 : zf 58 10 = some (.goto 4) := cf58_0.2.2.2.2.2.2.1
theorem f58_13 : zf 58 13 = some (.iconst 0) := cf58_0.2.2.2.2.2.2.2.1
theorem f58_14 : zf 58 14 = some (.ireturn) := cf58_0.2.2.2.2.2.2.2.2
theorem cf59_0 : zf 59 0 = some (.aload_n 0) ∧ zf 59 1 = some (.getfield 12) ∧ zf 59 4 = some (.getfield 151) ∧ zf 59 7 = some (.aload_n 0) ∧ zf 59 8 = some (.getfield 119) ∧ zf 59 11 = some (.lmul) ∧ zf 59 12 = some (.aload_n 0) ∧ zf 59 13 = some (.getfield 116) ∧ zf 59 16 = some (.ladd) ∧ zf 59 17 = some (.lreturn) := by decide +kernel
theorem f59_0 : zf 59 0 = some (.aload_n 0) := cf59_0.1
theorem f59_1 : zf 59 1 = some (.getfield 12) := cf59_0.2.1
theorem f59_4 : zf 59 4 = some (.getfield 151) := cf59_0.2.2.1
theorem f59_7 : zf 59 7 = some (.aload_n 0) := cf59_0.2.2.2.1
theorem f59_8 : zf 59 8 = some (.getfield 119) := cf59_0.2.2.2.2.1
theorem f59_11 : zf 59 11 = some (.lmul) := cf59_0.2.2.2.2.2.1
theorem f59_12 : zf 59 12 = some (.aload_n 0) := cf59_0.2.2.2.2.2.2.1
theorem f59_13 : zf 59 13 = some (.getfield 116) := cf59_0.2.2.2.2.2.2.2.1
theorem f59_16 : zf 59 16 = some (.ladd) := cf59_0.2.2.2.2.2.2.2.2.1
theorem f59_17 : zf 59 17 = some (.lreturn) := cf59_0.2.2.2.2.2.2.2.2.2
theorem cf60_0 : zf 60 0 = some (.aload_n 0) ∧ zf 60 1 = some (.getfield 12) ∧ zf 60 4 = some (.getfield 109) ∧ zf 60 7 = some (.aload_n 0) ∧ zf 60 8 = some (.getfield 119) ∧ zf 60 11 = some (.lmul) ∧ zf 60 12 = some (.lreturn) := by decide +kernel
theorem f60_0 : zf 60 0 = some (.aload_n 0) := cf60_0.1
theorem f60_1 : zf 60 1 = some (.getfield 12) := cf60_0.2.1
theorem f60_4 : zf 60 4 = some (.getfield 109) := cf60_0.2.2.1
theorem f60_7 : zf 60 7 = some (.aload_n 0) := cf60_0.2.2.2.1
theorem f60_8 : zf 60 8 = some (.getfield 119) := cf60_0.2.2.2.2.1
theorem f60_11 : zf 60 11 = some (.lmul) := cf60_0.2.2.2.2.2.1
theorem f60_12 : zf 60 12 = some (.lreturn) := cf60_0.2.2.2.2.2.2
theorem cf61_0 : zf 61 0 = some (.aload_n 0) ∧ zf 61 1 = some (.invokevirtual 154) ∧ zf 61 4 = some (.iload_n 1) ∧ zf 61 5 = some (.i2l) ∧ zf 61 6 = some (.aload_n 0) ∧ zf 61 7 = some (.invokevirtual 158) ∧ zf 61 10 = some (.lmul) ∧ zf 61 11 = some (.lcmp) ∧ zf 61 12 = some (.ifCond .le 7) ∧ zf 61 15 = some (.iconst 1) ∧ zf 61 16 = some (.goto 4) ∧ zf 61 19 = some (.iconst 0) ∧ zf 61 20 = some (.ireturn) := by decide +kernel
theorem f61_0 : zf 61 0 = some (.aload_n 0) := cf61_0.1
theorem f61_1 : zf 61 1 = some (.invokevirtual 154) := cf61_0.2.1
theorem f61_4 : zf 61 4 = some (.iload_n 1) := cf61_0.2.2.1
theorem f61_5 : zf 61 5 = some (.i2l) := cf61_0.2.2.2.1
theorem f61_6 : zf 61 6 = some (.aload_n 0) := cf61_0.2.2.2.2.1
theorem f61_7 : zf 61 7 = some (.invokevirtual 158) := cf61_0.2.2.2.2.2.1
theorem f61_10 : zf 61 10 = some (.lmul) := cf61_0.2.2.2.2.2.2.1
theorem f61_11 : zf 61 11 = some (.lcmp) := cf61_0.2.2.2.2.2.2.2.1
theorem f61_12 : zf 61 12 = some (.ifCond .le 7) := cf61_0.2.2.2.2.2.2.2.2.1
theorem f61_15 : zf 61 15 = some (.iconst 1) := cf61_0.2.2.2.2.2.2.2.2.2.1
theorem f61_16 : zf 61 16 = some (.goto 4) := cf61_0.2.2.2.2.2.2.2.2.2.2.1
theorem f61_19 : zf 61 19 = some (.iconst 0) := cf61_0.2.2.2.2.2.2.2.2.2.2.2.1
theorem f61_20 : zf 61 20 = some (.ireturn) := cf61_0.2.2.2.2.2.2.2.2.2.2.2.2
theorem cf62_0 : zf 62 0 = some (.aload_n 0) ∧ zf 62 1 = some (.getfield 12) ∧ zf 62 4 = some (.getfield 151) ∧ zf 62 7 = some (.iload_n 1) ∧ zf 62 8 = some (.i2l) ∧ zf 62 9 = some (.aload_n 0) ∧ zf 62 10 = some (.getfield 12) ∧ zf 62 13 = some (.getfield 109) ∧ zf 62 16 = some (.lmul) ∧ zf 62 17 = some (.lcmp) ∧ zf 62 18 = some (.ifCond .le 7) ∧ zf 62 21 = some (.iconst 1) ∧ zf 62 22 = some (.goto 4) ∧ zf 62 25 = some (.iconst 0) ∧ zf 62 26 = some (.ireturn) := by decide +kernel
theorem f62_0 : zf 62 0 = some (.aload_n 0) := cf62_0.1
theorem f62_1 : zf 62 1 = some (.getfield 12) := cf62_0.2.1
theorem f62_4 : zf 62 4 = some (.getfield 151) := cf62_0.2.2.1
theorem f62_7 : zf 62 7 = some (.iload_n 1) := cf62_0.2.2.2.1
theorem f62_8 : zf 62 8 = some (.i2l) := cf62_0.2.2.2.2.1
theorem f62_9 : zf 62 9 = some (.aload_n 0) := cf62_0.2.2.2.2.2.1
theorem f62_10 : zf 62 10 = some (.getfield 12) := cf62_0.2.2.2.2.2.2.1
theorem f62_13 : zf 62 13 = some (.getfield 109) := cf62_0.2.2.2.2.2.2.2.1
theorem f62_16 : zf 62 16 = some (.lmul) := cf62_0.2.2.2.2.2.2.2.2.1
theorem f62_17 : zf 62 17 = some (.lcmp) := cf62_0.2.2.2.2.2.2.2.2.2.1
theorem f62_18 : zf 62 18 = some (.ifCond .le 7) := cf62_0.2.2.2.2.2.2.2.2.2.2.1
theorem f62_21 : zf 62 21 = some (.iconst 1) := cf62_0.2.2.2.2.2.2.2.2.2.2.2.1
theorem f62_22 : zf 62 22 = some (.goto 4) := cf62_0.2.2.2.2.2.2.2.2.2.2.2.2.1
theorem f62_25 : zf 62 25 = some (.iconst 0) := cf62_0.2.2.2.2.2.2.2.2.2.2.2.2.2.1
theorem f62_26 : zf 62 26 = some (.ireturn) := cf62_0.2.2.2.2.2.2.2.2.2.2.2.2.2.2
theorem cf63_0 : zf 63 0 = some (.aload_n 0) ∧ zf 63 1 = some (.getfield 12) ∧ zf 63 4 = some (.getfield 151) ∧ zf 63 7 = some (.iload_n 1) ∧ zf 63 8 = some (.i2l) ∧ zf 63 9 = some (.aload_n 0) ∧ zf 63 10 = some (.getfield 12) ∧ zf 63 13 = some (.getfield 109) ∧ zf 63 16 = some (.lmul) ∧ zf 63 17 = some (.lcmp) ∧ zf 63 18 = some (.ifCond .ne 7) ∧ zf 63 21 = some (.iconst 1) ∧ zf 63 22 = some (.goto 4) ∧ zf 63 25 = some (.iconst 0) ∧ zf 63 26 = some (.ireturn) := by decide +kernel
theorem f63_0 : zf 63 0 = some (.aload_n 0) := cf63_0.1
theorem f63_1 : zf 63 1 = some (.getfield 12) := cf63_0.2.1
theorem f63_4 : zf 63 4 = some (.getfield 151) := cf63_0.2.2.1
theorem f63_7 : zf 63 7 = some (.iload_n 1) := cf63_0.2.2.2.1
theorem f63_8 : zf 63 8 = some (.i2l) := cf63_0.2.2.2.2.1
theorem f63_9 : zf 63 9 = some (.aload_n 0) := cf63_0.2.2.2.2.2.1
theorem f63_10 : zf 63 10 = some (.getfield 12) := cf63_0.2.2.2.2.2.2.1
theorem f63_13 : zf 63 13 = some (.getfield 109) := cf63_0.2.2.2.2.2.2.2.1
theorem f63_16 : zf 63 16 = some (.lmul) := cf63_0.2.2.2.2.2.2.2.2.1
theorem f63_17 : zf 63 17 = some (.lcmp) := cf63_0.2.2.2.2.2.2.2.2.2.1
theorem f63_18 : zf 63 18 = some (.ifCond .ne 7) := cf63_0.2.2.2.2.2.2.2.2.2.2.1
theorem f63_21 : zf 63 21 = some (.iconst 1) := cf63_0.2.2.2.2.2.2.2.2.2.2.2.1
theorem f63_22 : zf 63 22 = some (.goto 4) := cf63_0.2.2.2.2.2.2.2.2.2.2.2.2.1
theorem f63_25 : zf 63 25 = some (.iconst 0) := cf63_0.2.2.2.2.2.2.2.2.2.2.2.2.2.1
theorem f63_26 : zf 63 26 = some (.ireturn) := cf63_0.2.2.2.2.2.2.2.2.2.2.2.2.2.2
theorem cf64_0 : zf 64 0 = some (.iload_n 1) ∧ zf 64 1 = some (.i2l) ∧ zf 64 2 = some (.aload_n 0) ∧ zf 64 3 = some (.getfield 12) ∧ zf 64 6 = some (.getfield 109) ∧ zf 64 9 = some (.lmul) ∧ zf 64 10 = some (.aload_n 0) ∧ zf 64 11 = some (.getfield 12) ∧ zf 64 14 = some (.getfield 151) ∧ zf 64 17 = some (.lcmp) ∧ zf 64 18 = some (.ifCond .le 7) ∧ zf 64 21 = some (.iconst 1) ∧ zf 64 22 = some (.goto 4) ∧ zf 64 25 = some (.iconst 0) ∧ zf 64 26 = some (.ireturn) := by decide +kernel
theorem f64_0 : zf 64 0 = some (.iload_n 1) := cf64_0.1
theorem f64_1 : zf 64 1 = some (.i2l) := cf64_0.2.1
theorem f64_2 : zf 64 2 = some (.aload_n 0) := cf64_0.2.2.1
theorem f64_3 : zf 64 3 = some (.getfield 12) := cf64_0.2.2.2.1
theorem f64_6 : zf 64 6 = some (.getfield 109) := cf64_0.2.2.2.2.1
theorem f64_9 : zf 64 9 = some (.lmul) := cf64_0.2.2.2.2.2.1
theorem f64_10 : zf 64 10 = some (.aload_n 0) := cf64_0.2.2.2.2.2.2.1
theorem f64_11 : zf 64 11 = some (.getfield 12) := cf64_0.2.2.2.2.2.2.2.1
theorem f64_14 : zf 64 14 = some (.getfield 151) := cf64_0.2.2.2.2.2.2.2.2.1
theorem f64_17 : zf 64 17 = some (.lcmp) := cf64_0.2.2.2.2.2.2.2.2.2.1
theorem f64_18 : zf 64 18 = some (.ifCond .le 7) := cf64_0.2.2.2.2.2.2.2.2.2.2.1
theorem f64_21 : zf 64 21 = some (.iconst 1) := cf64_0.2.2.2.2.2.2.2.2.2.2.2.1
theorem f64_22 : zf 64 22 = some (.goto 4) := cf64_0.2.2.2.2.2.2.2.2.2.2.2.2.1
theorem f64_25 : zf 64 25 = some (.iconst 0) := cf64_0.2.2.2.2.2.2.2.2.2.2.2.2.2.1
theorem f64_26 : zf 64 26 = some (.ireturn) := cf64_0.2.2.2.2.2.2.2.2.2.2.2.2.2.2
theorem cf65_0 : zf 65 0 = some (.lconst 0) ∧ zf 65 1 = some (.lstore_n 1) ∧ zf 65 2 = some (.iconst 0) ∧ zf 65 3 = some (.istore_n 3) ∧ zf 65 4 = some (.iload_n 3) ∧ zf 65 5 = some (.aload_n 0) ∧ zf 65 6 = some (.getfield 37) ∧ zf 65 9 = some (.getfield 80) ∧ zf 65 12 = some (.if_icmp .ge 21) ∧ zf 65 15 = some (.lload_n 1) ∧ zf 65 16 = some (.aload_n 0) ∧ zf 65 17 = some (.getfield 12) ∧ zf 65 20 = some (.getfield 87) ∧ zf 65 23 = some (.iload_n 3) ∧ zf 65 24 = some (.laload) ∧ zf 65 25 = some (.ladd) := by decide +kernel
theorem f65_0 : zf 65 0 = some (.lconst 0) := cf65_0.1
theorem f65_1 : zf 65 1 = some (.lstore_n 1) := cf65_0.2.1
theorem f65_2 : zf 65 2 = some (.iconst 0) := cf65_0.2.2.1
theorem f65_3 : zf 65 3 = some (.istore_n 3) := cf65_0.2.2.2.1
theorem f65_4 : zf 65 4 = some (.iload_n 3) := cf65_0.2.2.2.2.1
theorem f65_5 : zf 65 5 = some (.aload_n 0) := cf65_0.2.2.2.2.2.1
theorem f65_6 : zf 65 6 = some (.getfield 37) := cf65_0.2.2.2.2.2.2.1
theorem f65_9 : zf 65 9 = some (.getfield 80) := cf65_0.2.2.2.2.2.2.2.1
theorem f65_12 : zf 65 12 = some (.if_icmp .ge 21) := cf65_0.2.2.2.2.2.2.2.2.1
theorem f65_15 : zf 65 15 = some (.lload_n 1) := cf65_0.2.2.2.2.2.2.2.2.2.1
theorem f65_16 : zf 65 16 = some (.aload_n 0) := cf65_0.2.2.2.2.2.2.2.2.2.2.1
theorem f65_17 : zf 65 17 = some (.getfield 12) := cf65_0.2.2.2.2.2.2.2.2.2.2.2.1
theorem f65_20 : zf 65 20 = some (.getfield 87) := cf65_0.2.2.2.2.2.2.2.2.2.2.2.2.1
theorem f65_23 : zf 65 23 = some (.iload_n 3) := cf65_0.2.2.2.2.2.2.2.2.2.2.2.2.2.1
theorem f65_24 : zf 65 24 = some (.laload) := cf65_0.2.2.2.2.2.2.2.2.2.2.2.2.2.2.1
theorem f65_25 : zf 65 25 = some (.ladd) := cf65_0.2.2.2.2.2.2.2.2.2.2.2.2.2.2.2
theorem cf65_26 : zf 65 26 = some (.lstore_n 1) ∧ zf 65 27 = some (.iinc 3 1) ∧ zf 65 30 = some (.goto (-26)) ∧ zf 65 33 = some (.lload_n 1) ∧ zf 65 34 = some (.lreturn) := by decide +kernel
theorem f65_26 : zf 65 26 = some (.lstore_n 1) := cf65_26.1
theorem f65_27 : zf 65 27 = some (.iinc 3 1) := cf65_26.2.1
theorem f65_30 : zf 65 30 = some (.goto (-26)) := cf65_26.2.2.1
theorem f65_33 : zf 65 33 = some (.lload_n 1) := cf65_26.2.2.2.1
theorem f65_34 : zf 65 34 = some (.lreturn) := cf65_26.2.2.2.2
theorem cf66_0 : zf 66 0 = some (.aload_n 0) ∧ zf 66 1 = some (.iconst 0) ∧ zf 66 2 = some (.putfield 161) ∧ zf 66 5 = some (.aload_n 0) ∧ zf 66 6 = some (.aload_n 0) ∧ zf 66 7 = some (.getfield 119) ∧ zf 66 10 = some (.aload_n 0) ∧ zf 66 11 = some (.getfield 116) ∧ zf 66 14 = some (.invokevirtual 164) ∧ zf 66 17 = some (.ifCond .ne 5) ∧ zf 66 20 = some (.iconst 0) ∧ zf 66 21 = some (.ireturn) ∧ zf 66 22 = some (.aload_n 0) ∧ zf 66 23 = some (.invokevirtual 168) ∧ zf 66 26 = some (.iconst 1) ∧ zf 66 27 = some (.ireturn) := by decide +kernel
theorem f66_0 : zf 66 0 = some (.aload_n 0) := cf66_0.1
theorem f66_1 : zf 66 1 = some (.iconst 0) := cf66_0.2.1
theorem f66_2 : zf 66 2 = some (.putfield 161) := cf66_0.2.2.1
theorem f66_5 : zf 66 5 = some (.aload_n 0) := cf66_0.2.2.2.1
theorem f66_6 : zf 66 6 = some (.aload_n 0) := cf66_0.2.2.2.2.1
theorem f66_7 : zf 66 7 = some (.getfield 119) := cf66_0.2.2.2.2.2.1
theorem f66_10 : zf 66 10 = some (.aload_n 0) := cf66_0.2.2.2.2.2.2.1
theorem f66_11 : zf 66 11 = some (.getfield 116) := cf66_0.2.2.2.2.2.2.2.1
theorem f66_14 : zf 66 14 = some (.invokevirtual 164) := cf66_0.2.2.2.2.2.2.2.2.1
theorem f66_17 : zf 66 17 = some (.ifCond .ne 5) := cf66_0.2.2.2.2.2.2.2.2.2.1
theorem f66_20 : zf 66 20 = some (.iconst 0) := cf66_0.2.2.2.2.2.2.2.2.2.2.1
theorem f66_21 : zf 66 21 = some (.ireturn) := cf66_0.2.2.2.2.2.2.2.2.2.2.2.1
theorem f66_22 : zf 66 22 = some (.aload_n 0) := cf66_0.2.2.2.2.2.2.2.2.2.2.2.2.1
theorem f66_23 : zf 66 23 = some (.invokevirtual 168) := cf66_0.2.2.2.2.2.2.2.2.2.2.2.2.2.1
theorem f66_26 : zf 66 26 = some (.iconst 1) := cf66_0.2.2.2.2.2.2.2.2.2.2.2.2.2.2.1
theorem f66_27 : zf 66 27 = some (.ireturn) := cf66_0.2.2.2.2.2.2.2.2.2.2.2.2.2.2.2
theorem cf67_0 : zf 67 0 = some (.aload_n 0) ∧ zf 67 1 = some (.lconst 1) ∧ zf 67 2 = some (.iload_n 1) ∧ zf 67 3 = some (.i2l) ∧ zf 67 4 = some (.aload_n 0) ∧ zf 67 5 = some (.getfield 12) ∧ zf 67 8 = some (.getfield 109) ∧ zf 67 11 = some (.lmul) ∧ zf 67 12 = some (.aload_n 0) ∧ zf 67 13 = some (.getfield 12) ∧ zf 67 16 = some (.getfield 151) ∧ zf 67 19 = some (.lsub) ∧ zf 67 20 = some (.invokevirtual 164) ∧ zf 67 23 = some (.pop) ∧ zf 67 24 = some (.return_) := by decide +kernel
theorem f67_0 : zf 67 0 = some (.aload_n 0) := cf67_0.1
theorem f67_1 : zf 67 1 = some (.lconst 1) := cf67_0.2.1
theorem f67_2 : zf 67 2 = some (.iload_n 1) := cf67_0.2.2.1
theorem f67_3 : zf 67 3 = some (.i2l) := cf67_0.2.2.2.1
theorem f67_4 : zf 67 4 = some (.aload_n 0) := cf67_0.2.2.2.2.1
theorem f67_5 : zf 67 5 = some (.getfield 12) := cf67_0.2.2.2.2.2.1
theorem f67_8 : zf 67 8 = some (.getfield 109) := cf67_0.2.2.2.2.2.2.1
theorem f67_11 : zf 67 11 = some (.lmul) := cf67_0.2.2.2.2.2.2.2.1
theorem f67_12 : zf 67 12 = some (.aload_n 0) := cf67_0.2.2.2.2.2.2.2.2.1
theorem f67_13 : zf 67 13 = some (.getfield 12) := cf67_0.2.2.2.2.2.2.2.2.2.1
theorem f67_16 : zf 67 16 = some (.getfield 151) := cf67_0.2.2.2.2.2.2.2.2.2.2.1
theorem f67_19 : zf 67 19 = some (.lsub) := cf67_0.2.2.2.2.2.2.2.2.2.2.2.1
theorem f67_20 : zf 67 20 = some (.invokevirtual 164) := cf67_0.2.2.2.2.2.2.2.2.2.2.2.2.1
theorem f67_23 : zf 67 23 = some (.pop) := cf67_0.2.2.2.2.2.2.2.2.2.2.2.2.2.1
theorem f67_24 : zf 67 24 = some (.return_) := cf67_0.2.2.2.2.2.2.2.2.2.2.2.2.2.2
theorem cf68_0 : zf 68 0 = some (.aload_n 0) ∧ zf 68 1 = some (.getfield 12) ∧ zf 68 4 = some (.getfield 109) ∧ zf 68 7 = some (.lload_n 1) ∧ zf 68 8 = some (.lmul) ∧ zf 68 9 = some (.lstore 5) ∧ zf 68 11 = some (.aload_n 0) ∧ zf 68 12 = some (.lload_n 1) ∧ zf 68 13 = some (.lload_n 3) ∧ zf 68 14 = some (.lload 5) ∧ zf 68 16 = some (.invokevirtual 171) ∧ zf 68 19 = some (.lstore 7) ∧ zf 68 21 = some (.lload 7) ∧ zf 68 23 = some (.lconst 0) ∧ zf 68 24 = some (.lcmp) ∧ zf 68 25 = some (.ifCond .eq 15) := by decide +kernel
theorem f68_0 : zf 68 0 = some (.aload_n 0) := cf68_0.1
theorem f68_1 : zf 68 1 = some (.getfield 12) := cf68_0.2.1
theorem f68_4 : zf 68 4 = some (.getfield 109) := cf68_0.2.2.1
theorem f68_7 : zf 68 7 = some (.lload_n 1) := cf68_0.2.2.2.1
theorem f68_8 : zf 68 8 = some (.lmul) := cf68_0.2.2.2.2.1
theorem f68_9 : zf 68 9 = some (.lstore 5) := cf68_0.2.2.2.2.2.1
theorem f68_11 : zf 68 11 = some (.aload_n 0) := cf68_0.2.2.2.2.2.2.1
theorem f68_12 : zf 68 12 = some (.lload_n 1) := cf68_0.2.2.2.2.2.2.2.1
theorem f68_13 : zf 68 13 = some (.lload_n 3) := cf68_0.2.2.2.2.2.2.2.2.1
theorem f68_14 : zf 68 14 = some (.lload 5) := cf68_0.2.2.2.2.2.2.2.2.2.1
theorem f68_16 : zf 68 16 = some (.invokevirtual 171) := cf68_0.2.2.2.2.2.2.2.2.2.2.1
theorem f68_19 : zf 68 19 = some (.lstore 7) := cf68_0.2.2.2.2.2.2.2.2.2.2.2.1
theorem f68_21 : zf 68 21 = some (.lload 7) := cf68_0.2.2.2.2.2.2.2.2.2.2.2.2.1
theorem f68_23 : zf 68 23 = some (.lconst 0) := cf68_0.2.2.2.2.2.2.2.2.2.2.2.2.2.1
theorem f68_24 : zf 68 24 = some (.lcmp) := cf68_0.2.2.2.2.2.2.2.2.2.2.2.2.2.2.1
theorem f68_25 : zf 68 25 = some (.ifCond .eq 15) := cf68_0.2.2.2.2.2.2.2.2.2.2.2.2.2.2.2
theorem cf68_28 : zf 68 28 = some (.lload 5) ∧ zf 68 30 = some (.lload 7) ∧ zf 68 32 = some (.ldiv) ∧ zf 68 33 = some (.ldc2_w 175) ∧ zf 68 36 = some (.lcmp) ∧ zf 68 37 = some (.ifCond .le 5) ∧ zf 68 40 = some (.iconst 0) ∧ zf 68 41 = some (.ireturn) ∧ zf 68 42 = some (.aload_n 0) ∧ zf 68 43 = some (.getfield 12) ∧ zf 68 46 = some (.lload 5) ∧ zf 68 48 = some (.lload 7) ∧ zf 68 50 = some (.ldiv) ∧ zf 68 51 = some (.putfield 109) ∧ zf 68 54 = some (.aload_n 0) ∧ zf 68 55 = some (.getfield 12) := by decide +kernel
theorem f68_28 : zf 68 28 = some (.lload 5) := cf68_28.1
theorem f68_30 : zf 68 30 = some (.lload 7) := cf68_28.2.1
theorem f68_32 : zf 68 32 = some (.ldiv) := cf68_28.2.2.1
theorem f68_33 : zf 68 33 = some (.ldc2_w 175) := cf68_28.2.2.2.1
theorem f68_36 : zf 68 36 = some (.lcmp) := cf68_28.2.2.2.2.1
theorem f68_37 : zf 68 37 = some (.ifCond .le 5) := cf68_28.2.2.2.2.2.1
theorem f68_40 : zf 68 40 = some (.iconst 0) := cf68_28.2.2.2.2.2.2.1
theorem f68_41 : zf 68 41 = some (.ireturn) := cf68_28.2.2.2.2.2.2.2.1
theorem f68_42 : zf 68 42 = some (.aload_n 0) := cf68_28.2.2.2.2.2.2.2.2.1
theorem f68_43 : zf 68 43 = some (.getfield 12) := cf68_28.2.2.2.2.2.2.2.2.2.1
theorem f68_46 : zf 68 46 = some (.lload 5) := cf68_28.2.2.2.2.2.2.2.2.2.2.1
theorem f68_48 : zf 68 48 = some (.lload 7) := cf68_28.2.2.2.2.2.2.2.2.2.2.2.1
theorem f68_50 : zf 68 50 = some (.ldiv) := cf68_28.2.2.2.2.2.2.2.2.2.2.2.2.1
theorem f68_51 : zf 68 51 = some (.putfield 109) := cf68_28.2.2.2.2.2.2.2.2.2.2.2.2.2.1
theorem f68_54 : zf 68 54 = some (.aload_n 0) := cf68_28.2.2.2.2.2.2.2.2.2.2.2.2.2.2.1
theorem f68_55 : zf 68 55 = some (.getfield 12) := cf68_28.2.2.2.2.2.2.2.2.2.2.2.2.2.2.2
theorem cf68_58 : zf 68 58 = some (.aload_n 0) ∧ zf 68 59 = some (.getfield 12) ∧ zf 68 62 = some (.getfield 151) ∧ zf 68 65 = some (.lload_n 1) ∧ zf 68 66 = some (.lmul) ∧ zf 68 67 = some (.lload_n 3) ∧ zf 68 68 = some (.ladd) ∧ zf 68 69 = some (.lload 7) ∧ zf 68 71 = some (.ldiv) ∧ zf 68 72 = some (.putfield 151) ∧ zf 68 75 = some (.aload_n 0) ∧ zf 68 76 = some (.getfield 12) ∧ zf 68 79 = some (.aload_n 0) ∧ zf 68 80 = some (.getfield 12) ∧ zf 68 83 = some (.getfield 177) ∧ zf 68 86 = some (.lload_n 1) := by decide +kernel
theorem f68_58 : zf 68 58 = some (.aload_n 0) := cf68_58.1
theorem f68_59 : zf 68 59 = some (.getfield 12) := cf68_58.2.1
theorem f68_62 : zf 68 62 = some (.getfield 151) := cf68_58.2.2.1
theorem f68_65 : zf 68 65 = some (.lload_n 1) := cf68_58.2.2.2.1
theorem f68_66 : zf 68 66 = some (.lmul) := cf68_58.2.2.2.2.1
theorem f68_67 : zf 68 67 = some (.lload_n 3) := cf68_58.2.2.2.2.2.1
theorem f68_68 : zf 68 68 = some (.ladd) := cf68_58.2.2.2.2.2.2.1
theorem f68_69 : zf 68 69 = some (.lload 7) := cf68_58.2.2.2.2.2.2.2.1
theorem f68_71 : zf 68 71 = some (.ldiv) := cf68_58.2.2.2.2.2.2.2.2.1
theorem f68_72 : zf 68 72 = some (.putfield 151) := cf68_58.2.2.2.2.2.2.2.2.2.1
theorem f68_75 : zf 68 75 = some (.aload_n 0) := cf68_58.2.2.2.2.2.2.2.2.2.2.1
theorem f68_76 : zf 68 76 = some (.getfield 12) := cf68_58.2.2.2.2.2.2.2.2.2.2.2.1
theorem f68_79 : zf 68 79 = some (.aload_n 0) := cf68_58.2.2.2.2.2.2.2.2.2.2.2.2.1
theorem f68_80 : zf 68 80 = some (.getfield 12) := cf68_58.2.2.2.2.2.2.2.2.2.2.2.2.2.1
theorem f68_83 : zf 68 83 = some (.getfield 177) := cf68_58.2.2.2.2.2.2.2.2.2.2.2.2.2.2.1
theorem f68_86 : zf 68 86 = some (.lload_n 1) := cf68_58.2.2.2.2.2.2.2.2.2.2.2.2.2.2.2
theorem cf68_87 : zf 68 87 = some (.lmul) ∧ zf 68 88 = some (.aload_n 0) ∧ zf 68 89 = some (.getfield 54) ∧ zf 68 92 = some (.i2l) ∧ zf 68 93 = some (.lload_n 3) ∧ zf 68 94 = some (.lmul) ∧ zf 68 95 = some (.ladd) ∧ zf 68 96 = some (.lload 7) ∧ zf 68 98 = some (.ldiv) ∧ zf 68 99 = some (.putfield 177) ∧ zf 68 102 = some (.aload_n 0) ∧ zf 68 103 = some (.getfield 12) ∧ zf 68 106 = some (.aload_n 0) ∧ zf 68 107 = some (.getfield 12) ∧ zf 68 110 = some (.getfield 180) ∧ zf 68 113 = some (.lload_n 1) := by decide +kernel
theorem f68_87 : zf 68 87 = some (.lmul) := cf68_87.1
theorem f68_88 : zf 68 88 = some (.aload_n 0) := cf68_87.2.1
theorem f68_89 : zf 68 89 = some (.getfield 54) := cf68_87.2.2.1
theorem f68_92 : zf 68 92 = some (.i2l) := cf68_87.2.2.2.1
theorem f68_93 : zf 68 93 = some (.lload_n 3) := cf68_87.2.2.2.2.1
theorem f68_94 : zf 68 94 = some (.lmul) := cf68_87.2.2.2.2.2.1
theorem f68_95 : zf 68 95 = some (.ladd) := cf68_87.2.2.2.2.2.2.1
theorem f68_96 : zf 68 96 = some (.lload 7) := cf68_87.2.2.2.2.2.2.2.1
theorem f68_98 : zf 68 98 = some (.ldiv) := cf68_87.2.2.2.2.2.2.2.2.1
theorem f68_99 : zf 68 99 = some (.putfield 177) := cf68_87.2.2.2.2.2.2.2.2.2.1
theorem f68_102 : zf 68 102 = some (.aload_n 0) := cf68_87.2.2.2.2.2.2.2.2.2.2.1
theorem f68_103 : zf 68 103 = some (.getfield 12) := cf68_87.2.2.2.2.2.2.2.2.2.2.2.1
theorem f68_106 : zf 68 106 = some (.aload_n 0) := cf68_87.2.2.2.2.2.2.2.2.2.2.2.2.1
theorem f68_107 : zf 68 107 = some (.getfield 12) := cf68_87.2.2.2.2.2.2.2.2.2.2.2.2.2.1
theorem f68_110 : zf 68 110 = some (.getfield 180) := cf68_87.2.2.2.2.2.2.2.2.2.2.2.2.2.2.1
theorem f68_113 : zf 68 113 = some (.lload_n 1) := cf68_87.2.2.2.2.2.2.2.2.2.2.2.2.2.2.2
theorem cf68_114 : zf 68 114 = some (.lmul) ∧ zf 68 115 = some (.aload_n 0) ∧ zf 68 116 = some (.getfield 58) ∧ zf 68 119 = some (.i2l) ∧ zf 68 120 = some (.lload_n 3) ∧ zf 68 121 = some (.lmul) ∧ zf 68 122 = some (.ladd) ∧ zf 68 123 = some (.lload 7) ∧ zf 68 125 = some (.ldiv) ∧ zf 68 126 = some (.putfield 180) ∧ zf 68 129 = some (.iconst 0) ∧ zf 68 130 = some (.istore 9) ∧ zf 68 132 = some (.iload 9) ∧ zf 68 134 = some (.aload_n 0) ∧ zf 68 135 = some (.getfield 37) ∧ zf 68 138 = some (.getfield 80) := by decide +kernel
theorem f68_114 : zf 68 114 = some (.lmul) := cf68_114.1
theorem f68_115 : zf 68 115 = some (.aload_n 0) := cf68_114.2.1
theorem f68_116 : zf 68 116 = some (.getfield 58) := cf68_114.2.2.1
theorem f68_119 : zf 68 119 = some (.i2l) := cf68_114.2.2.2.1
theorem f68_120 : zf 68 120 = some (.lload_n 3) := cf68_114.2.2.2.2.1
theorem f68_121 : zf 68 121 = some (.lmul) := cf68_114.2.2.2.2.2.1
theorem f68_122 : zf 68 122 = some (.ladd) := cf68_114.2.2.2.2.2.2.1
theorem f68_123 : zf 68 123 = some (.lload 7) := cf68_114.2.2.2.2.2.2.2.1
theorem f68_125 : zf 68 125 = some (.ldiv) := cf68_114.2.2.2.2.2.2.2.2.1
theorem f68_126 : zf 68 126 = some (.putfield 180) := cf68_114.2.2.2.2.2.2.2.2.2.1
theorem f68_129 : zf 68 129 = some (.iconst 0) := cf68_114.2.2.2.2.2.2.2.2.2.2.1
theorem f68_130 : zf 68 130 = some (.istore 9) := cf68_114.2.2.2.2.2.2.2.2.2.2.2.1
theorem f68_132 : zf 68 132 = some (.iload 9) := cf68_114.2.2.2.2.2.2.2.2.2.2.2.2.1
theorem f68_134 : zf 68 134 = some (.aload_n 0) := cf68_114.2.2.2.2.2.2.2.2.2.2.2.2.2.1
theorem f68_135 : zf 68 135 = some (.getfield 37) := cf68_114.2.2.2.2.2.2.2.2.2.2.2.2.2.2.1
theorem f68_138 : zf 68 138 = some (.getfield 80) := cf68_114.2.2.2.2.2.2.2.2.2.2.2.2.2.2.2
theorem cf68_141 : zf 68 141 = some (.if_icmp .ge 45) ∧ zf 68 144 = some (.aload_n 0) ∧ zf 68 145 = some (.getfield 12) ∧ zf 68 148 = some (.getfield 87) ∧ zf 68 151 = some (.iload 9) ∧ zf 68 153 = some (.aload_n 0) ∧ zf 68 154 = some (.getfield 12) ∧ zf 68 157 = some (.getfield 87) ∧ zf 68 160 = some (.iload 9) ∧ zf 68 162 = some (.laload) ∧ zf 68 163 = some (.lload_n 1) ∧ zf 68 164 = some (.lmul) ∧ zf 68 165 = some (.aload_n 0) ∧ zf 68 166 = some (.getfield 22) ∧ zf 68 169 = some (.iload 9) ∧ zf 68 171 = some (.iaload) := by decide +kernel
theorem f68_141 : zf 68 141 = some (.if_icmp .ge 45) := cf68_141.1
theorem f68_144 : zf 68 144 = some (.aload_n 0) := cf68_141.2.1
theorem f68_145 : zf 68 145 = some (.getfield 12) := cf68_141.2.2.1
theorem f68_148 : zf 68 148 = some (.getfield 87) := cf68_141.2.2.2.1
theorem f68_151 : zf 68 151 = some (.iload 9) := cf68_141.2.2.2.2.1
theorem f68_153 : zf 68 153 = some (.aload_n 0) := cf68_141.2.2.2.2.2.1
theorem f68_154 : zf 68 154 = some (.getfield 12) := cf68_141.2.2.2.2.2.2.1
theorem f68_157 : zf 68 157 = some (.getfield 87) := cf68_141.2.2.2.2.2.2.2.1
theorem f68_160 : zf 68 160 = some (.iload 9) := cf68_141.2.2.2.2.2.2.2.2.1
theorem f68_162 : zf 68 162 = some (.laload) := cf68_141.2.2.2.2.2.2.2.2.2.1
theorem f68_163 : zf 68 163 = some (.lload_n 1) := cf68_141.2.2.2.2.2.2.2.2.2.2.1
theorem f68_164 : zf 68 164 = some (.lmul) := cf68_141.2.2.2.2.2.2.2.2.2.2.2.1
theorem f68_165 : zf 68 165 = some (.aload_n 0) := cf68_141.2.2.2.2.2.2.2.2.2.2.2.2.1
theorem f68_166 : zf 68 166 = some (.getfield 22) := cf68_141.2.2.2.2.2.2.2.2.2.2.2.2.2.1
theorem f68_169 : zf 68 169 = some (.iload 9) := cf68_141.2.2.2.2.2.2.2.2.2.2.2.2.2.2.1
theorem f68_171 : zf 68 171 = some (.iaload) := cf68_141.2.2.2.2.2.2.2.2.2.2.2.2.2.2.2
theorem cf68_172 : zf 68 172 = some (.i2l) ∧ zf 68 173 = some (.lload_n 3) ∧ zf 68 174 = some (.lmul) ∧ zf 68 175 = some (.ladd) ∧ zf 68 176 = some (.lload 7) ∧ zf 68 178 = some (.ldiv) ∧ zf 68 179 = some (.lastore) ∧ zf 68 180 = some (.iinc 9 1) ∧ zf 68 183 = some (.goto (-51)) ∧ zf 68 186 = some (.iconst 1) ∧ zf 68 187 = some (.ireturn) := by decide +kernel
theorem f68_172 : zf 68 172 = some (.i2l) := cf68_172.1
theorem f68_173 : zf 68 173 = some (.lload_n 3) := cf68_172.2.1
theorem f68_174 : zf 68 174 = some (.lmul) := cf68_172.2.2.1
theorem f68_175 : zf 68 175 = some (.ladd) := cf68_172.2.2.2.1
theorem f68_176 : zf 68 176 = some (.lload 7) := cf68_172.2.2.2.2.1
theorem f68_178 : zf 68 178 = some (.ldiv) := cf68_172.2.2.2.2.2.1
theorem f68_179 : zf 68 179 = some (.lastore) := cf68_172.2.2.2.2.2.2.1
theorem f68_180 : zf 68 180 = some (.iinc 9 1) := cf68_172.2.2.2.2.2.2.2.1
theorem f68_183 : zf 68 183 = some (.goto (-51)) := cf68_172.2.2.2.2.2.2.2.2.1
theorem f68_186 : zf 68 186 = some (.iconst 1) := cf68_172.2.2.2.2.2.2.2.2.2.1
theorem f68_187 : zf 68 187 = some (.ireturn) := cf68_172.2.2.2.2.2.2.2.2.2.2
theorem cf69_0 : zf 69 0 = some (.aload_n 0) ∧ zf 69 1 = some (.getfield 12) ∧ zf 69 4 = some (.getfield 151) ∧ zf 69 7 = some (.lload_n 1) ∧ zf 69 8 = some (.lmul) ∧ zf 69 9 = some (.lload_n 3) ∧ zf 69 10 = some (.ladd) ∧ zf 69 11 = some (.lload 5) ∧ zf 69 13 = some (.invokestatic 183) ∧ zf 69 16 = some (.lstore 7) ∧ zf 69 18 = some (.aload_n 0) ∧ zf 69 19 = some (.getfield 12) ∧ zf 69 22 = some (.getfield 177) ∧ zf 69 25 = some (.lload_n 1) ∧ zf 69 26 = some (.lmul) ∧ zf 69 27 = some (.aload_n 0) := by decide +kernel
theorem f69_0 : zf 69 0 = some (.aload_n 0) := cf69_0.1
theorem f69_1 : zf 69 1 = some (.getfield 12) := cf69_0.2.1
theorem f69_4 : zf 69 4 = some (.getfield 151) := cf69_0.2.2.1
theorem f69_7 : zf 69 7 = some (.lload_n 1) := cf69_0.2.2.2.1
theorem f69_8 : zf 69 8 = some (.lmul) := cf69_0.2.2.2.2.1
theorem f69_9 : zf 69 9 = some (.lload_n 3) := cf69_0.2.2.2.2.2.1
theorem f69_10 : zf 69 10 = some (.ladd) := cf69_0.2.2.2.2.2.2.1
theorem f69_11 : zf 69 11 = some (.lload 5) := cf69_0.2.2.2.2.2.2.2.1
theorem f69_13 : zf 69 13 = some (.invokestatic 183) := cf69_0.2.2.2.2.2.2.2.2.1
theorem f69_16 : zf 69 16 = some (.lstore 7) := cf69_0.2.2.2.2.2.2.2.2.2.1
theorem f69_18 : zf 69 18 = some (.aload_n 0) := cf69_0.2.2.2.2.2.2.2.2.2.2.1
theorem f69_19 : zf 69 19 = some (.getfield 12) := cf69_0.2.2.2.2.2.2.2.2.2.2.2.1
theorem f69_22 : zf 69 22 = some (.getfield 177) := cf69_0.2.2.2.2.2.2.2.2.2.2.2.2.1
theorem f69_25 : zf 69 25 = some (.lload_n 1) := cf69_0.2.2.2.2.2.2.2.2.2.2.2.2.2.1
theorem f69_26 : zf 69 26 = some (.lmul) := cf69_0.2.2.2.2.2.2.2.2.2.2.2.2.2.2.1
theorem f69_27 : zf 69 27 = some (.aload_n 0) := cf69_0.2.2.2.2.2.2.2.2.2.2.2.2.2.2.2
theorem cf69_28 : zf 69 28 = some (.getfield 54) ∧ zf 69 31 = some (.i2l) ∧ zf 69 32 = some (.lload_n 3) ∧ zf 69 33 = some (.lmul) ∧ zf 69 34 = some (.ladd) ∧ zf 69 35 = some (.lload 7) ∧ zf 69 37 = some (.invokestatic 183) ∧ zf 69 40 = some (.lstore 7) ∧ zf 69 42 = some (.aload_n 0) ∧ zf 69 43 = some (.getfield 12) ∧ zf 69 46 = some (.getfield 180) ∧ zf 69 49 = some (.lload_n 1) ∧ zf 69 50 = some (.lmul) ∧ zf 69 51 = some (.aload_n 0) ∧ zf 69 52 = some (.getfield 58) ∧ zf 69 55 = some (.i2l) := by decide +kernel
theorem f69_28 : zf 69 28 = some (.getfield 54) := cf69_28.1
theorem f69_31 : zf 69 31 = some (.i2l) := cf69_28.2.1
theorem f69_32 : zf 69 32 = some (.lload_n 3) := cf69_28.2.2.1
theorem f69_33 : zf 69 33 = some (.lmul) := cf69_28.2.2.2.1
theorem f69_34 : zf 69 34 = some (.ladd) := cf69_28.2.2.2.2.1
theorem f69_35 : zf 69 35 = some (.lload 7) := cf69_28.2.2.2.2.2.1
theorem f69_37 : zf 69 37 = some (.invokestatic 183) := cf69_28.2.2.2.2.2.2.1
theorem f69_40 : zf 69 40 = some (.lstore 7) := cf69_28.2.2.2.2.2.2.2.1
theorem f69_42 : zf 69 42 = some (.aload_n 0) := cf69_28.2.2.2.2.2.2.2.2.1
theorem f69_43 : zf 69 43 = some (.getfield 12) := cf69_28.2.2.2.2.2.2.2.2.2.1
theorem f69_46 : zf 69 46 = some (.getfield 180) := cf69_28.2.2.2.2.2.2.2.2.2.2.1
theorem f69_49 : zf 69 49 = some (.lload_n 1) := cf69_28.2.2.2.2.2.2.2.2.2.2.2.1
theorem f69_50 : zf 69 50 = some (.lmul) := cf69_28.2.2.2.2.2.2.2.2.2.2.2.2.1
theorem f69_51 : zf 69 51 = some (.aload_n 0) := cf69_28.2.2.2.2.2.2.2.2.2.2.2.2.2.1
theorem f69_52 : zf 69 52 = some (.getfield 58) := cf69_28.2.2.2.2.2.2.2.2.2.2.2.2.2.2.1
theorem f69_55 : zf 69 55 = some (.i2l) := cf69_28.2.2.2.2.2.2.2.2.2.2.2.2.2.2.2
theorem cf69_56 : zf 69 56 = some (.lload_n 3) ∧ zf 69 57 = some (.lmul) ∧ zf 69 58 = some (.ladd) ∧ zf 69 59 = some (.lload 7) ∧ zf 69 61 = some (.invokestatic 183) ∧ zf 69 64 = some (.lstore 7) ∧ zf 69 66 = some (.iconst 0) ∧ zf 69 67 = some (.istore 9) ∧ zf 69 69 = some (.iload 9) ∧ zf 69 71 = some (.aload_n 0) ∧ zf 69 72 = some (.getfield 37) ∧ zf 69 75 = some (.getfield 80) ∧ zf 69 78 = some (.if_icmp .ge 46) ∧ zf 69 81 = some (.lload 7) ∧ zf 69 83 = some (.lconst 1) ∧ zf 69 84 = some (.lcmp) := by decide +kernel
theorem f69_56 : zf 69 56 = some (.lload_n 3) := cf69_56.1
theorem f69_57 : zf 69 57 = some (.lmul) := cf69_56.2.1
theorem f69_58 : zf 69 58 = some (.ladd) := cf69_56.2.2.1
theorem f69_59 : zf 69 59 = some (.lload 7) := cf69_56.2.2.2.1
theorem f69_61 : zf 69 61 = some (.invokestatic 183) := cf69_56.2.2.2.2.1
theorem f69_64 : zf 69 64 = some (.lstore 7) := cf69_56.2.2.2.2.2.1
theorem f69_66 : zf 69 66 = some (.iconst 0) := cf69_56.2.2.2.2.2.2.1
theorem f69_67 : zf 69 67 = some (.istore 9) := cf69_56.2.2.2.2.2.2.2.1
theorem f69_69 : zf 69 69 = some (.iload 9) := cf69_56.2.2.2.2.2.2.2.2.1
theorem f69_71 : zf 69 71 = some (.aload_n 0) := cf69_56.2.2.2.2.2.2.2.2.2.1
theorem f69_72 : zf 69 72 = some (.getfield 37) := cf69_56.2.2.2.2.2.2.2.2.2.2.1
theorem f69_75 : zf 69 75 = some (.getfield 80) := cf69_56.2.2.2.2.2.2.2.2.2.2.2.1
theorem f69_78 : zf 69 78 = some (.if_icmp .ge 46) := cf69_56.2.2.2.2.2.2.2.2.2.2.2.2.1
theorem f69_81 : zf 69 81 = some (.lload 7) := cf69_56.2.2.2.2.2.2.2.2.2.2.2.2.2.1
theorem f69_83 : zf 69 83 = some (.lconst 1) := cf69_56.2.2.2.2.2.2.2.2.2.2.2.2.2.2.1
theorem f69_84 : zf 69 84 = some (.lcmp) := cf69_56.2.2.2.2.2.2.2.2.2.2.2.2.2.2.2
theorem cf69_85 : zf 69 85 = some (.ifCond .le 39) ∧ zf 69 88 = some (.aload_n 0) ∧ zf 69 89 = some (.getfield 12) ∧ zf 69 92 = some (.getfield 87) ∧ zf 69 95 = some (.iload 9) ∧ zf 69 97 = some (.laload) ∧ zf 69 98 = some (.lload_n 1) ∧ zf 69 99 = some (.lmul) ∧ zf 69 100 = some (.aload_n 0) ∧ zf 69 101 = some (.getfield 22) ∧ zf 69 104 = some (.iload 9) ∧ zf 69 106 = some (.iaload) ∧ zf 69 107 = some (.i2l) ∧ zf 69 108 = some (.lload_n 3) ∧ zf 69 109 = some (.lmul) ∧ zf 69 110 = some (.ladd) := by decide +kernel
theorem f69_85 : zf 69 85 = some (.ifCond .le 39) := cf69_85.1
theorem f69_88 : zf 69 88 = some (.aload_n 0) := cf69_85.2.1
theorem f69_89 : zf 69 89 = some (.getfield 12) := cf69_85.2.2.1
theorem f69_92 : zf 69 92 = some (.getfield 87) := cf69_85.2.2.2.1
theorem f69_95 : zf 69 95 = some (.iload 9) := cf69_85.2.2.2.2.1
theorem f69_97 : zf 69 97 = some (.laload) := cf69_85.2.2.2.2.2.1
theorem f69_98 : zf 69 98 = some (.lload_n 1) := cf69_85.2.2.2.2.2.2.1
theorem f69_99 : zf 69 99 = some (.lmul) := cf69_85.2.2.2.2.2.2.2.1
theorem f69_100 : zf 69 100 = some (.aload_n 0) := cf69_85.2.2.2.2.2.2.2.2.1
theorem f69_101 : zf 69 101 = some (.getfield 22) := cf69_85.2.2.2.2.2.2.2.2.2.1
theorem f69_104 : zf 69 104 = some (.iload 9) := cf69_85.2.2.2.2.2.2.2.2.2.2.1
theorem f69_106 : zf 69 106 = some (.iaload) := cf69_85.2.2.2.2.2.2.2.2.2.2.2.1
theorem f69_107 : zf 69 107 = some (.i2l) := cf69_85.2.2.2.2.2.2.2.2.2.2.2.2.1
theorem f69_108 : zf 69 108 = some (.lload_n 3) := cf69_85.2.2.2.2.2.2.2.2.2.2.2.2.2.1
theorem f69_109 : zf 69 109 = some (.lmul) := cf69_85.2.2.2.2.2.2.2.2.2.2.2.2.2.2.1
theorem f69_110 : zf 69 110 = some (.ladd) := cf69_85.2.2.2.2.2.2.2.2.2.2.2.2.2.2.2
theorem cf69_111 : zf 69 111 = some (.lload 7) ∧ zf 69 113 = some (.invokestatic 183) ∧ zf 69 116 = some (.lstore 7) ∧ zf 69 118 = some (.iinc 9 1) ∧ zf 69 121 = some (.goto (-52)) ∧ zf 69 124 = some (.lload 7) ∧ zf 69 126 = some (.lreturn) := by decide +kernel
theorem f69_111 : zf 69 111 = some (.lload 7) := cf69_111.1
theorem f69_113 : zf 69 113 = some (.invokestatic 183) := cf69_111.2.1
theorem f69_116 : zf 69 116 = some (.lstore 7) := cf69_111.2.2.1
theorem f69_118 : zf 69 118 = some (.iinc 9 1) := cf69_111.2.2.2.1
theorem f69_121 : zf 69 121 = some (.goto (-52)) := cf69_111.2.2.2.2.1
theorem f69_124 : zf 69 124 = some (.lload 7) := cf69_111.2.2.2.2.2.1
theorem f69_126 : zf 69 126 = some (.lreturn) := cf69_111.2.2.2.2.2.2
theorem cf70_0 : zf 70 0 = some (.aload_n 0) ∧ zf 70 1 = some (.iconst 0) ∧ zf 70 2 = some (.putfield 161) ∧ zf 70 5 = some (.iconst 0) ∧ zf 70 6 = some (.istore_n 1) ∧ zf 70 7 = some (.iload_n 1) ∧ zf 70 8 = some (.aload_n 0) ∧ zf 70 9 = some (.getfield 37) ∧ zf 70 12 = some (.getfield 80) ∧ zf 70 15 = some (.if_icmp .ge 34) ∧ zf 70 18 = some (.aload_n 0) ∧ zf 70 19 = some (.getfield 37) ∧ zf 70 22 = some (.iload_n 1) ∧ zf 70 23 = some (.invokevirtual 132) ∧ zf 70 26 = some (.iconst 2) ∧ zf 70 27 = some (.if_icmp .ne 16) := by decide +kernel
theorem f70_0 : zf 70 0 = some (.aload_n 0) := cf70_0.1
theorem f70_1 : zf 70 1 = some (.iconst 0) := cf70_0.2.1
theorem f70_2 : zf 70 2 = some (.putfield 161) := cf70_0.2.2.1
theorem f70_5 : zf 70 5 = some (.iconst 0) := cf70_0.2.2.2.1
theorem f70_6 : zf 70 6 = some (.istore_n 1) := cf70_0.2.2.2.2.1
theorem f70_7 : zf 70 7 = some (.iload_n 1) := cf70_0.2.2.2.2.2.1
theorem f70_8 : zf 70 8 = some (.aload_n 0) := cf70_0.2.2.2.2.2.2.1
theorem f70_9 : zf 70 9 = some (.getfield 37) := cf70_0.2.2.2.2.2.2.2.1
theorem f70_12 : zf 70 12 = some (.getfield 80) := cf70_0.2.2.2.2.2.2.2.2.1
theorem f70_15 : zf 70 15 = some (.if_icmp .ge 34) := cf70_0.2.2.2.2.2.2.2.2.2.1
theorem f70_18 : zf 70 18 = some (.aload_n 0) := cf70_0.2.2.2.2.2.2.2.2.2.2.1
theorem f70_19 : zf 70 19 = some (.getfield 37) := cf70_0.2.2.2.2.2.2.2.2.2.2.2.1
theorem f70_22 : zf 70 22 = some (.iload_n 1) := cf70_0.2.2.2.2.2.2.2.2.2.2.2.2.1
theorem f70_23 : zf 70 23 = some (.invokevirtual 132) := cf70_0.2.2.2.2.2.2.2.2.2.2.2.2.2.1
theorem f70_26 : zf 70 26 = some (.iconst 2) := cf70_0.2.2.2.2.2.2.2.2.2.2.2.2.2.2.1
theorem f70_27 : zf 70 27 = some (.if_icmp .ne 16) := cf70_0.2.2.2.2.2.2.2.2.2.2.2.2.2.2.2
theorem cf70_30 : zf 70 30 = some (.aload_n 0) ∧ zf 70 31 = some (.iload_n 1) ∧ zf 70 32 = some (.invokevirtual 97) ∧ zf 70 35 = some (.ifCond .eq 8) ∧ zf 70 38 = some (.aload_n 0) ∧ zf 70 39 = some (.iload_n 1) ∧ zf 70 40 = some (.invokevirtual 187) ∧ zf 70 43 = some (.iinc 1 1) ∧ zf 70 46 = some (.goto (-39)) ∧ zf 70 49 = some (.iconst 0) ∧ zf 70 50 = some (.istore_n 1) ∧ zf 70 51 = some (.iload_n 1) ∧ zf 70 52 = some (.aload_n 0) ∧ zf 70 53 = some (.getfield 37) ∧ zf 70 56 = some (.getfield 80) ∧ zf 70 59 = some (.if_icmp .ge 26) := by decide +kernel
theorem f70_30 : zf 70 30 = some (.aload_n 0) := cf70_30.1
theorem f70_31 : zf 70 31 = some (.iload_n 1) := cf70_30.2.1
theorem f70_32 : zf 70 32 = some (.invokevirtual 97) := cf70_30.2.2.1
theorem f70_35 : zf 70 35 = some (.ifCond .eq 8) := cf70_30.2.2.2.1
theorem f70_38 : zf 70 38 = some (.aload_n 0) := cf70_30.2.2.2.2.1
theorem f70_39 : zf 70 39 = some (.iload_n 1) := cf70_30.2.2.2.2.2.1
theorem f70_40 : zf 70 40 = some (.invokevirtual 187) := cf70_30.2.2.2.2.2.2.1
theorem f70_43 : zf 70 43 = some (.iinc 1 1) := cf70_30.2.2.2.2.2.2.2.1
theorem f70_46 : zf 70 46 = some (.goto (-39)) := cf70_30.2.2.2.2.2.2.2.2.1
theorem f70_49 : zf 70 49 = some (.iconst 0) := cf70_30.2.2.2.2.2.2.2.2.2.1
theorem f70_50 : zf 70 50 = some (.istore_n 1) := cf70_30.2.2.2.2.2.2.2.2.2.2.1
theorem f70_51 : zf 70 51 = some (.iload_n 1) := cf70_30.2.2.2.2.2.2.2.2.2.2.2.1
theorem f70_52 : zf 70 52 = some (.aload_n 0) := cf70_30.2.2.2.2.2.2.2.2.2.2.2.2.1
theorem f70_53 : zf 70 53 = some (.getfield 37) := cf70_30.2.2.2.2.2.2.2.2.2.2.2.2.2.1
theorem f70_56 : zf 70 56 = some (.getfield 80) := cf70_30.2.2.2.2.2.2.2.2.2.2.2.2.2.2.1
theorem f70_59 : zf 70 59 = some (.if_icmp .ge 26) := cf70_30.2.2.2.2.2.2.2.2.2.2.2.2.2.2.2
theorem cf70_62 : zf 70 62 = some (.aload_n 0) ∧ zf 70 63 = some (.getfield 37) ∧ zf 70 66 = some (.iload_n 1) ∧ zf 70 67 = some (.invokevirtual 132) ∧ zf 70 70 = some (.iconst 1) ∧ zf 70 71 = some (.if_icmp .ne 8) ∧ zf 70 74 = some (.aload_n 0) ∧ zf 70 75 = some (.iload_n 1) ∧ zf 70 76 = some (.invokevirtual 190) ∧ zf 70 79 = some (.iinc 1 1) ∧ zf 70 82 = some (.goto (-31)) ∧ zf 70 85 = some (.iconst 0) ∧ zf 70 86 = some (.istore_n 1) ∧ zf 70 87 = some (.iload_n 1) ∧ zf 70 88 = some (.aload_n 0) ∧ zf 70 89 = some (.getfield 37) := by decide +kernel
theorem f70_62 : zf 70 62 = some (.aload_n 0) := cf70_62.1
theorem f70_63 : zf 70 63 = some (.getfield 37) := cf70_62.2.1
theorem f70_66 : zf 70 66 = some (.iload_n 1) := cf70_62.2.2.1
theorem f70_67 : zf 70 67 = some (.invokevirtual 132) := cf70_62.2.2.2.1
theorem f70_70 : zf 70 70 = some (.iconst 1) := cf70_62.2.2.2.2.1
theorem f70_71 : zf 70 71 = some (.if_icmp .ne 8) := cf70_62.2.2.2.2.2.1
theorem f70_74 : zf 70 74 = some (.aload_n 0) := cf70_62.2.2.2.2.2.2.1
theorem f70_75 : zf 70 75 = some (.iload_n 1) := cf70_62.2.2.2.2.2.2.2.1
theorem f70_76 : zf 70 76 = some (.invokevirtual 190) := cf70_62.2.2.2.2.2.2.2.2.1
theorem f70_79 : zf 70 79 = some (.iinc 1 1) := cf70_62.2.2.2.2.2.2.2.2.2.1
theorem f70_82 : zf 70 82 = some (.goto (-31)) := cf70_62.2.2.2.2.2.2.2.2.2.2.1
theorem f70_85 : zf 70 85 = some (.iconst 0) := cf70_62.2.2.2.2.2.2.2.2.2.2.2.1
theorem f70_86 : zf 70 86 = some (.istore_n 1) := cf70_62.2.2.2.2.2.2.2.2.2.2.2.2.1
theorem f70_87 : zf 70 87 = some (.iload_n 1) := cf70_62.2.2.2.2.2.2.2.2.2.2.2.2.2.1
theorem f70_88 : zf 70 88 = some (.aload_n 0) := cf70_62.2.2.2.2.2.2.2.2.2.2.2.2.2.2.1
theorem f70_89 : zf 70 89 = some (.getfield 37) := cf70_62.2.2.2.2.2.2.2.2.2.2.2.2.2.2.2
theorem cf70_92 : zf 70 92 = some (.getfield 80) ∧ zf 70 95 = some (.if_icmp .ge 14) ∧ zf 70 98 = some (.aload_n 0) ∧ zf 70 99 = some (.iload_n 1) ∧ zf 70 100 = some (.invokevirtual 193) ∧ zf 70 103 = some (.iinc 1 1) ∧ zf 70 106 = some (.goto (-19)) ∧ zf 70 109 = some (.aload_n 0) ∧ zf 70 110 = some (.lconst 1) ∧ zf 70 111 = some (.lconst 0) ∧ zf 70 112 = some (.invokevirtual 164) ∧ zf 70 115 = some (.pop) ∧ zf 70 116 = some (.return_) := by decide +kernel
theorem f70_92 : zf 70 92 = some (.getfield 80) := cf70_92.1
theorem f70_95 : zf 70 95 = some (.if_icmp .ge 14) := cf70_92.2.1
theorem f70_98 : zf 70 98 = some (.aload_n 0) := cf70_92.2.2.1
theorem f70_99 : zf 70 99 = some (.iload_n 1) := cf70_92.2.2.2.1
theorem f70_100 : zf 70 100 = some (.invokevirtual 193) := cf70_92.2.2.2.2.1
theorem f70_103 : zf 70 103 = some (.iinc 1 1) := cf70_92.2.2.2.2.2.1
theorem f70_106 : zf 70 106 = some (.goto (-19)) := cf70_92.2.2.2.2.2.2.1
theorem f70_109 : zf 70 109 = some (.aload_n 0) := cf70_92.2.2.2.2.2.2.2.1
theorem f70_110 : zf 70 110 = some (.lconst 1) := cf70_92.2.2.2.2.2.2.2.2.1
theorem f70_111 : zf 70 111 = some (.lconst 0) := cf70_92.2.2.2.2.2.2.2.2.2.1
theorem f70_112 : zf 70 112 = some (.invokevirtual 164) := cf70_92.2.2.2.2.2.2.2.2.2.2.1
theorem f70_115 : zf 70 115 = some (.pop) := cf70_92.2.2.2.2.2.2.2.2.2.2.2.1
theorem f70_116 : zf 70 116 = some (.return_) := cf70_92.2.2.2.2.2.2.2.2.2.2.2.2
theorem cf71_0 : zf 71 0 = some (.aload_n 0) ∧ zf 71 1 = some (.getfield 12) ∧ zf 71 4 = some (.getfield 87) ∧ zf 71 7 = some (.iload_n 1) ∧ zf 71 8 = some (.laload) ∧ zf 71 9 = some (.lstore_n 2) ∧ zf 71 10 = some (.aload_n 0) ∧ zf 71 11 = some (.getfield 12) ∧ zf 71 14 = some (.getfield 87) ∧ zf 71 17 = some (.iload_n 1) ∧ zf 71 18 = some (.lconst 0) ∧ zf 71 19 = some (.lastore) ∧ zf 71 20 = some (.aload_n 0) ∧ zf 71 21 = some (.aload_n 0) ∧ zf 71 22 = some (.getfield 37) ∧ zf 71 25 = some (.getfield 196) := by decide +kernel
theorem f71_0 : zf 71 0 = some (.aload_n 0) := cf71_0.1
theorem f71_1 : zf 71 1 = some (.getfield 12) := cf71_0.2.1
theorem f71_4 : zf 71 4 = some (.getfield 87) := cf71_0.2.2.1
theorem f71_7 : zf 71 7 = some (.iload_n 1) := cf71_0.2.2.2.1
theorem f71_8 : zf 71 8 = some (.laload) := cf71_0.2.2.2.2.1
theorem f71_9 : zf 71 9 = some (.lstore_n 2) := cf71_0.2.2.2.2.2.1
theorem f71_10 : zf 71 10 = some (.aload_n 0) := cf71_0.2.2.2.2.2.2.1
theorem f71_11 : zf 71 11 = some (.getfield 12) := cf71_0.2.2.2.2.2.2.2.1
theorem f71_14 : zf 71 14 = some (.getfield 87) := cf71_0.2.2.2.2.2.2.2.2.1
theorem f71_17 : zf 71 17 = some (.iload_n 1) := cf71_0.2.2.2.2.2.2.2.2.2.1
theorem f71_18 : zf 71 18 = some (.lconst 0) := cf71_0.2.2.2.2.2.2.2.2.2.2.1
theorem f71_19 : zf 71 19 = some (.lastore) := cf71_0.2.2.2.2.2.2.2.2.2.2.2.1
theorem f71_20 : zf 71 20 = some (.aload_n 0) := cf71_0.2.2.2.2.2.2.2.2.2.2.2.2.1
theorem f71_21 : zf 71 21 = some (.aload_n 0) := cf71_0.2.2.2.2.2.2.2.2.2.2.2.2.2.1
theorem f71_22 : zf 71 22 = some (.getfield 37) := cf71_0.2.2.2.2.2.2.2.2.2.2.2.2.2.2.1
theorem f71_25 : zf 71 25 = some (.getfield 196) := cf71_0.2.2.2.2.2.2.2.2.2.2.2.2.2.2.2
theorem cf71_28 : zf 71 28 = some (.iload_n 1) ∧ zf 71 29 = some (.iaload) ∧ zf 71 30 = some (.lload_n 2) ∧ zf 71 31 = some (.invokevirtual 199) ∧ zf 71 34 = some (.aload_n 0) ∧ zf 71 35 = some (.iconst 1) ∧ zf 71 36 = some (.iload_n 1) ∧ zf 71 37 = some (.invokevirtual 203) ∧ zf 71 40 = some (.return_) := by decide +kernel
theorem f71_28 : zf 71 28 = some (.iload_n 1) := cf71_28.1
theorem f71_29 : zf 71 29 = some (.iaload) := cf71_28.2.1
theorem f71_30 : zf 71 30 = some (.lload_n 2) := cf71_28.2.2.1
theorem f71_31 : zf 71 31 = some (.invokevirtual 199) := cf71_28.2.2.2.1
theorem f71_34 : zf 71 34 = some (.aload_n 0) := cf71_28.2.2.2.2.1
theorem f71_35 : zf 71 35 = some (.iconst 1) := cf71_28.2.2.2.2.2.1
theorem f71_36 : zf 71 36 = some (.iload_n 1) := cf71_28.2.2.2.2.2.2.1
theorem f71_37 : zf 71 37 = some (.invokevirtual 203) := cf71_28.2.2.2.2.2.2.2.1
theorem f71_40 : zf 71 40 = some (.return_) := cf71_28.2.2.2.2.2.2.2.2
theorem cf72_0 : zf 72 0 = some (.iload_n 1) ∧ zf 72 1 = some (.istore 4) ∧ zf 72 3 = some (.lload_n 2) ∧ zf 72 4 = some (.lstore 5) ∧ zf 72 6 = some (.iconst 0) ∧ zf 72 7 = some (.istore 7) ∧ zf 72 9 = some (.iload 7) ∧ zf 72 11 = some (.bipush 8) ∧ zf 72 13 = some (.if_icmp .ge 99) ∧ zf 72 16 = some (.lload 5) ∧ zf 72 18 = some (.lconst 0) ∧ zf 72 19 = some (.lcmp) ∧ zf 72 20 = some (.ifCond .le 92) ∧ zf 72 23 = some (.aload_n 0) ∧ zf 72 24 = some (.getfield 37) ∧ zf 72 27 = some (.iload 4) := by decide +kernel
theorem f72_0 : zf 72 0 = some (.iload_n 1) := cf72_0.1
theorem f72_1 : zf 72 1 = some (.istore 4) := cf72_0.2.1
theorem f72_3 : zf 72 3 = some (.lload_n 2) := cf72_0.2.2.1
theorem f72_4 : zf 72 4 = some (.lstore 5) := cf72_0.2.2.2.1
theorem f72_6 : zf 72 6 = some (.iconst 0) := cf72_0.2.2.2.2.1
theorem f72_7 : zf 72 7 = some (.istore 7) := cf72_0.2.2.2.2.2.1
theorem f72_9 : zf 72 9 = some (.iload 7) := cf72_0.2.2.2.2.2.2.1
theorem f72_11 : zf 72 11 = some (.bipush 8) := cf72_0.2.2.2.2.2.2.2.1
theorem f72_13 : zf 72 13 = some (.if_icmp .ge 99) := cf72_0.2.2.2.2.2.2.2.2.1
theorem f72_16 : zf 72 16 = some (.lload 5) := cf72_0.2.2.2.2.2.2.2.2.2.1
theorem f72_18 : zf 72 18 = some (.lconst 0) := cf72_0.2.2.2.2.2.2.2.2.2.2.1
theorem f72_19 : zf 72 19 = some (.lcmp) := cf72_0.2.2.2.2.2.2.2.2.2.2.2.1
theorem f72_20 : zf 72 20 = some (.ifCond .le 92) := cf72_0.2.2.2.2.2.2.2.2.2.2.2.2.1
theorem f72_23 : zf 72 23 = some (.aload_n 0) := cf72_0.2.2.2.2.2.2.2.2.2.2.2.2.2.1
theorem f72_24 : zf 72 24 = some (.getfield 37) := cf72_0.2.2.2.2.2.2.2.2.2.2.2.2.2.2.1
theorem f72_27 : zf 72 27 = some (.iload 4) := cf72_0.2.2.2.2.2.2.2.2.2.2.2.2.2.2.2
theorem cf72_29 : zf 72 29 = some (.invokevirtual 103) ∧ zf 72 32 = some (.ifCond .eq 80) ∧ zf 72 35 = some (.lload 5) ∧ zf 72 37 = some (.aload_n 0) ∧ zf 72 38 = some (.getfield 37) ∧ zf 72 41 = some (.getfield 106) ∧ zf 72 44 = some (.iload 4) ∧ zf 72 46 = some (.iaload) ∧ zf 72 47 = some (.i2l) ∧ zf 72 48 = some (.aload_n 0) ∧ zf 72 49 = some (.getfield 12) ∧ zf 72 52 = some (.getfield 109) ∧ zf 72 55 = some (.lmul) ∧ zf 72 56 = some (.aload_n 0) ∧ zf 72 57 = some (.getfield 12) ∧ zf 72 60 = some (.getfield 87) := by decide +kernel
theorem f72_29 : zf 72 29 = some (.invokevirtual 103) := cf72_29.1
theorem f72_32 : zf 72 32 = some (.ifCond .eq 80) := cf72_29.2.1
theorem f72_35 : zf 72 35 = some (.lload 5) := cf72_29.2.2.1
theorem f72_37 : zf 72 37 = some (.aload_n 0) := cf72_29.2.2.2.1
theorem f72_38 : zf 72 38 = some (.getfield 37) := cf72_29.2.2.2.2.1
theorem f72_41 : zf 72 41 = some (.getfield 106) := cf72_29.2.2.2.2.2.1
theorem f72_44 : zf 72 44 = some (.iload 4) := cf72_29.2.2.2.2.2.2.1
theorem f72_46 : zf 72 46 = some (.iaload) := cf72_29.2.2.2.2.2.2.2.1
theorem f72_47 : zf 72 47 = some (.i2l) := cf72_29.2.2.2.2.2.2.2.2.1
theorem f72_48 : zf 72 48 = some (.aload_n 0) := cf72_29.2.2.2.2.2.2.2.2.2.1
theorem f72_49 : zf 72 49 = some (.getfield 12) := cf72_29.2.2.2.2.2.2.2.2.2.2.1
theorem f72_52 : zf 72 52 = some (.getfield 109) := cf72_29.2.2.2.2.2.2.2.2.2.2.2.1
theorem f72_55 : zf 72 55 = some (.lmul) := cf72_29.2.2.2.2.2.2.2.2.2.2.2.2.1
theorem f72_56 : zf 72 56 = some (.aload_n 0) := cf72_29.2.2.2.2.2.2.2.2.2.2.2.2.2.1
theorem f72_57 : zf 72 57 = some (.getfield 12) := cf72_29.2.2.2.2.2.2.2.2.2.2.2.2.2.2.1
theorem f72_60 : zf 72 60 = some (.getfield 87) := cf72_29.2.2.2.2.2.2.2.2.2.2.2.2.2.2.2
theorem cf72_63 : zf 72 63 = some (.iload 4) ∧ zf 72 65 = some (.laload) ∧ zf 72 66 = some (.lsub) ∧ zf 72 67 = some (.invokestatic 206) ∧ zf 72 70 = some (.lstore 8) ∧ zf 72 72 = some (.aload_n 0) ∧ zf 72 73 = some (.getfield 12) ∧ zf 72 76 = some (.getfield 87) ∧ zf 72 79 = some (.iload 4) ∧ zf 72 81 = some (.dup2) ∧ zf 72 82 = some (.laload) ∧ zf 72 83 = some (.lload 8) ∧ zf 72 85 = some (.ladd) ∧ zf 72 86 = some (.lastore) ∧ zf 72 87 = some (.lload 5) ∧ zf 72 89 = some (.lload 8) := by decide +kernel
theorem f72_63 : zf 72 63 = some (.iload 4) := cf72_63.1
theorem f72_65 : zf 72 65 = some (.laload) := cf72_63.2.1
theorem f72_66 : zf 72 66 = some (.lsub) := cf72_63.2.2.1
theorem f72_67 : zf 72 67 = some (.invokestatic 206) := cf72_63.2.2.2.1
theorem f72_70 : zf 72 70 = some (.lstore 8) := cf72_63.2.2.2.2.1
theorem f72_72 : zf 72 72 = some (.aload_n 0) := cf72_63.2.2.2.2.2.1
theorem f72_73 : zf 72 73 = some (.getfield 12) := cf72_63.2.2.2.2.2.2.1
theorem f72_76 : zf 72 76 = some (.getfield 87) := cf72_63.2.2.2.2.2.2.2.1
theorem f72_79 : zf 72 79 = some (.iload 4) := cf72_63.2.2.2.2.2.2.2.2.1
theorem f72_81 : zf 72 81 = some (.dup2) := cf72_63.2.2.2.2.2.2.2.2.2.1
theorem f72_82 : zf 72 82 = some (.laload) := cf72_63.2.2.2.2.2.2.2.2.2.2.1
theorem f72_83 : zf 72 83 = some (.lload 8) := cf72_63.2.2.2.2.2.2.2.2.2.2.2.1
theorem f72_85 : zf 72 85 = some (.ladd) := cf72_63.2.2.2.2.2.2.2.2.2.2.2.2.1
theorem f72_86 : zf 72 86 = some (.lastore) := cf72_63.2.2.2.2.2.2.2.2.2.2.2.2.2.1
theorem f72_87 : zf 72 87 = some (.lload 5) := cf72_63.2.2.2.2.2.2.2.2.2.2.2.2.2.2.1
theorem f72_89 : zf 72 89 = some (.lload 8) := cf72_63.2.2.2.2.2.2.2.2.2.2.2.2.2.2.2
theorem cf72_91 : zf 72 91 = some (.lsub) ∧ zf 72 92 = some (.lstore 5) ∧ zf 72 94 = some (.aload_n 0) ∧ zf 72 95 = some (.getfield 37) ∧ zf 72 98 = some (.getfield 100) ∧ zf 72 101 = some (.iload 4) ∧ zf 72 103 = some (.iaload) ∧ zf 72 104 = some (.istore 4) ∧ zf 72 106 = some (.iinc 7 1) ∧ zf 72 109 = some (.goto (-100)) ∧ zf 72 112 = some (.aload_n 0) ∧ zf 72 113 = some (.getfield 12) ∧ zf 72 116 = some (.dup) ∧ zf 72 117 = some (.getfield 180) ∧ zf 72 120 = some (.lload 5) ∧ zf 72 122 = some (.ladd) := by decide +kernel
theorem f72_91 : zf 72 91 = some (.lsub) := cf72_91.1
theorem f72_92 : zf 72 92 = some (.lstore 5) := cf72_91.2.1
theorem f72_94 : zf 72 94 = some (.aload_n 0) := cf72_91.2.2.1
theorem f72_95 : zf 72 95 = some (.getfield 37) := cf72_91.2.2.2.1
theorem f72_98 : zf 72 98 = some (.getfield 100) := cf72_91.2.2.2.2.1
theorem f72_101 : zf 72 101 = some (.iload 4) := cf72_91.2.2.2.2.2.1
theorem f72_103 : zf 72 103 = some (.iaload) := cf72_91.2.2.2.2.2.2.1
theorem f72_104 : zf 72 104 = some (.istore 4) := cf72_91.2.2.2.2.2.2.2.1
theorem f72_106 : zf 72 106 = some (.iinc 7 1) := cf72_91.2.2.2.2.2.2.2.2.1
theorem f72_109 : zf 72 109 = some (.goto (-100)) := cf72_91.2.2.2.2.2.2.2.2.2.1
theorem f72_112 : zf 72 112 = some (.aload_n 0) := cf72_91.2.2.2.2.2.2.2.2.2.2.1
theorem f72_113 : zf 72 113 = some (.getfield 12) := cf72_91.2.2.2.2.2.2.2.2.2.2.2.1
theorem f72_116 : zf 72 116 = some (.dup) := cf72_91.2.2.2.2.2.2.2.2.2.2.2.2.1
theorem f72_117 : zf 72 117 = some (.getfield 180) := cf72_91.2.2.2.2.2.2.2.2.2.2.2.2.2.1
theorem f72_120 : zf 72 120 = some (.lload 5) := cf72_91.2.2.2.2.2.2.2.2.2.2.2.2.2.2.1
theorem f72_122 : zf 72 122 = some (.ladd) := cf72_91.2.2.2.2.2.2.2.2.2.2.2.2.2.2.2
theorem cf72_123 : zf 72 123 = some (.putfield 180) ∧ zf 72 126 = some (.return_) := by decide +kernel
theorem f72_123 : zf 72 123 = some (.putfield 180) := cf72_123.1
theorem f72_126 : zf 72 126 = some (.return_) := cf72_123.2
theorem cf73_0 : zf 73 0 = some (.aload_n 0) ∧ zf 73 1 = some (.getfield 12) ∧ zf 73 4 = some (.iload_n 1) ∧ zf 73 5 = some (.invokevirtual 51) ∧ zf 73 8 = some (.ifCond .ne 52) ∧ zf 73 11 = some (.aload_n 0) ∧ zf 73 12 = some (.getfield 12) ∧ zf 73 15 = some (.getfield 87) ∧ zf 73 18 = some (.iload_n 1) ∧ zf 73 19 = some (.laload) ∧ zf 73 20 = some (.aload_n 0) ∧ zf 73 21 = some (.getfield 37) ∧ zf 73 24 = some (.getfield 139) ∧ zf 73 27 = some (.iload_n 1) ∧ zf 73 28 = some (.iaload) ∧ zf 73 29 = some (.i2l) := by decide +kernel
theorem f73_0 : zf 73 0 = some (.aload_n 0) := cf73_0.1
theorem f73_1 : zf 73 1 = some (.getfield 12) := cf73_0.2.1
theorem f73_4 : zf 73 4 = some (.iload_n 1) := cf73_0.2.2.1
theorem f73_5 : zf 73 5 = some (.invokevirtual 51) := cf73_0.2.2.2.1
theorem f73_8 : zf 73 8 = some (.ifCond .ne 52) := cf73_0.2.2.2.2.1
theorem f73_11 : zf 73 11 = some (.aload_n 0) := cf73_0.2.2.2.2.2.1
theorem f73_12 : zf 73 12 = some (.getfield 12) := cf73_0.2.2.2.2.2.2.1
theorem f73_15 : zf 73 15 = some (.getfield 87) := cf73_0.2.2.2.2.2.2.2.1
theorem f73_18 : zf 73 18 = some (.iload_n 1) := cf73_0.2.2.2.2.2.2.2.2.1
theorem f73_19 : zf 73 19 = some (.laload) := cf73_0.2.2.2.2.2.2.2.2.2.1
theorem f73_20 : zf 73 20 = some (.aload_n 0) := cf73_0.2.2.2.2.2.2.2.2.2.2.1
theorem f73_21 : zf 73 21 = some (.getfield 37) := cf73_0.2.2.2.2.2.2.2.2.2.2.2.1
theorem f73_24 : zf 73 24 = some (.getfield 139) := cf73_0.2.2.2.2.2.2.2.2.2.2.2.2.1
theorem f73_27 : zf 73 27 = some (.iload_n 1) := cf73_0.2.2.2.2.2.2.2.2.2.2.2.2.2.1
theorem f73_28 : zf 73 28 = some (.iaload) := cf73_0.2.2.2.2.2.2.2.2.2.2.2.2.2.2.1
theorem f73_29 : zf 73 29 = some (.i2l) := cf73_0.2.2.2.2.2.2.2.2.2.2.2.2.2.2.2
theorem cf73_30 : zf 73 30 = some (.aload_n 0) ∧ zf 73 31 = some (.getfield 12) ∧ zf 73 34 = some (.getfield 109) ∧ zf 73 37 = some (.lmul) ∧ zf 73 38 = some (.lcmp) ∧ zf 73 39 = some (.ifCond .lt 50) ∧ zf 73 42 = some (.aload_n 0) ∧ zf 73 43 = some (.getfield 12) ∧ zf 73 46 = some (.iload_n 1) ∧ zf 73 47 = some (.iconst 1) ∧ zf 73 48 = some (.invokevirtual 208) ∧ zf 73 51 = some (.aload_n 0) ∧ zf 73 52 = some (.iconst 2) ∧ zf 73 53 = some (.iload_n 1) ∧ zf 73 54 = some (.invokevirtual 203) ∧ zf 73 57 = some (.goto 32) := by decide +kernel
theorem f73_30 : zf 73 30 = some (.aload_n 0) := cf73_30.1
theorem f73_31 : zf 73 31 = some (.getfield 12) := cf73_30.2.1
theorem f73_34 : zf 73 34 = some (.getfield 109) := cf73_30.2.2.1
theorem f73_37 : zf 73 37 = some (.lmul) := cf73_30.2.2.2.1
theorem f73_38 : zf 73 38 = some (.lcmp) := cf73_30.2.2.2.2.1
theorem f73_39 : zf 73 39 = some (.ifCond .lt 50) := cf73_30.2.2.2.2.2.1
theorem f73_42 : zf 73 42 = some (.aload_n 0) := cf73_30.2.2.2.2.2.2.1
theorem f73_43 : zf 73 43 = some (.getfield 12) := cf73_30.2.2.2.2.2.2.2.1
theorem f73_46 : zf 73 46 = some (.iload_n 1) := cf73_30.2.2.2.2.2.2.2.2.1
theorem f73_47 : zf 73 47 = some (.iconst 1) := cf73_30.2.2.2.2.2.2.2.2.2.1
theorem f73_48 : zf 73 48 = some (.invokevirtual 208) := cf73_30.2.2.2.2.2.2.2.2.2.2.1
theorem f73_51 : zf 73 51 = some (.aload_n 0) := cf73_30.2.2.2.2.2.2.2.2.2.2.2.1
theorem f73_52 : zf 73 52 = some (.iconst 2) := cf73_30.2.2.2.2.2.2.2.2.2.2.2.2.1
theorem f73_53 : zf 73 53 = some (.iload_n 1) := cf73_30.2.2.2.2.2.2.2.2.2.2.2.2.2.1
theorem f73_54 : zf 73 54 = some (.invokevirtual 203) := cf73_30.2.2.2.2.2.2.2.2.2.2.2.2.2.2.1
theorem f73_57 : zf 73 57 = some (.goto 32) := cf73_30.2.2.2.2.2.2.2.2.2.2.2.2.2.2.2
theorem cf73_60 : zf 73 60 = some (.aload_n 0) ∧ zf 73 61 = some (.getfield 12) ∧ zf 73 64 = some (.getfield 87) ∧ zf 73 67 = some (.iload_n 1) ∧ zf 73 68 = some (.laload) ∧ zf 73 69 = some (.lconst 0) ∧ zf 73 70 = some (.lcmp) ∧ zf 73 71 = some (.ifCond .ne 18) ∧ zf 73 74 = some (.aload_n 0) ∧ zf 73 75 = some (.getfield 12) ∧ zf 73 78 = some (.iload_n 1) ∧ zf 73 79 = some (.iconst 0) ∧ zf 73 80 = some (.invokevirtual 208) ∧ zf 73 83 = some (.aload_n 0) ∧ zf 73 84 = some (.iconst 3) ∧ zf 73 85 = some (.iload_n 1) := by decide +kernel
theorem f73_60 : zf 73 60 = some (.aload_n 0) := cf73_60.1
theorem f73_61 : zf 73 61 = some (.getfield 12) := cf73_60.2.1
theorem f73_64 : zf 73 64 = some (.getfield 87) := cf73_60.2.2.1
theorem f73_67 : zf 73 67 = some (.iload_n 1) := cf73_60.2.2.2.1
theorem f73_68 : zf 73 68 = some (.laload) := cf73_60.2.2.2.2.1
theorem f73_69 : zf 73 69 = some (.lconst 0) := cf73_60.2.2.2.2.2.1
theorem f73_70 : zf 73 70 = some (.lcmp) := cf73_60.2.2.2.2.2.2.1
theorem f73_71 : zf 73 71 = some (.ifCond .ne 18) := cf73_60.2.2.2.2.2.2.2.1
theorem f73_74 : zf 73 74 = some (.aload_n 0) := cf73_60.2.2.2.2.2.2.2.2.1
theorem f73_75 : zf 73 75 = some (.getfield 12) := cf73_60.2.2.2.2.2.2.2.2.2.1
theorem f73_78 : zf 73 78 = some (.iload_n 1) := cf73_60.2.2.2.2.2.2.2.2.2.2.1
theorem f73_79 : zf 73 79 = some (.iconst 0) := cf73_60.2.2.2.2.2.2.2.2.2.2.2.1
theorem f73_80 : zf 73 80 = some (.invokevirtual 208) := cf73_60.2.2.2.2.2.2.2.2.2.2.2.2.1
theorem f73_83 : zf 73 83 = some (.aload_n 0) := cf73_60.2.2.2.2.2.2.2.2.2.2.2.2.2.1
theorem f73_84 : zf 73 84 = some (.iconst 3) := cf73_60.2.2.2.2.2.2.2.2.2.2.2.2.2.2.1
theorem f73_85 : zf 73 85 = some (.iload_n 1) := cf73_60.2.2.2.2.2.2.2.2.2.2.2.2.2.2.2
theorem cf73_86 : zf 73 86 = some (.invokevirtual 203) ∧ zf 73 89 = some (.return_) := by decide +kernel
theorem f73_86 : zf 73 86 = some (.invokevirtual 203) := cf73_86.1
theorem f73_89 : zf 73 89 = some (.return_) := cf73_86.2
theorem cf74_0 : zf 74 0 = some (.aload_n 0) ∧ zf 74 1 = some (.iload_n 1) ∧ zf 74 2 = some (.iconst 1) ∧ zf 74 3 = some (.invokevirtual 135) ∧ zf 74 6 = some (.ifCond .eq 73) ∧ zf 74 9 = some (.aload_n 0) ∧ zf 74 10 = some (.getfield 12) ∧ zf 74 13 = some (.getfield 87) ∧ zf 74 16 = some (.iload_n 1) ∧ zf 74 17 = some (.laload) ∧ zf 74 18 = some (.aload_n 0) ∧ zf 74 19 = some (.getfield 37) ∧ zf 74 22 = some (.getfield 139) ∧ zf 74 25 = some (.iload_n 1) ∧ zf 74 26 = some (.iaload) ∧ zf 74 27 = some (.i2l) := by decide +kernel
theorem f74_0 : zf 74 0 = some (.aload_n 0) := cf74_0.1
theorem f74_1 : zf 74 1 = some (.iload_n 1) := cf74_0.2.1
theorem f74_2 : zf 74 2 = some (.iconst 1) := cf74_0.2.2.1
theorem f74_3 : zf 74 3 = some (.invokevirtual 135) := cf74_0.2.2.2.1
theorem f74_6 : zf 74 6 = some (.ifCond .eq 73) := cf74_0.2.2.2.2.1
theorem f74_9 : zf 74 9 = some (.aload_n 0) := cf74_0.2.2.2.2.2.1
theorem f74_10 : zf 74 10 = some (.getfield 12) := cf74_0.2.2.2.2.2.2.1
theorem f74_13 : zf 74 13 = some (.getfield 87) := cf74_0.2.2.2.2.2.2.2.1
theorem f74_16 : zf 74 16 = some (.iload_n 1) := cf74_0.2.2.2.2.2.2.2.2.1
theorem f74_17 : zf 74 17 = some (.laload) := cf74_0.2.2.2.2.2.2.2.2.2.1
theorem f74_18 : zf 74 18 = some (.aload_n 0) := cf74_0.2.2.2.2.2.2.2.2.2.2.1
theorem f74_19 : zf 74 19 = some (.getfield 37) := cf74_0.2.2.2.2.2.2.2.2.2.2.2.1
theorem f74_22 : zf 74 22 = some (.getfield 139) := cf74_0.2.2.2.2.2.2.2.2.2.2.2.2.1
theorem f74_25 : zf 74 25 = some (.iload_n 1) := cf74_0.2.2.2.2.2.2.2.2.2.2.2.2.2.1
theorem f74_26 : zf 74 26 = some (.iaload) := cf74_0.2.2.2.2.2.2.2.2.2.2.2.2.2.2.1
theorem f74_27 : zf 74 27 = some (.i2l) := cf74_0.2.2.2.2.2.2.2.2.2.2.2.2.2.2.2
theorem cf74_28 : zf 74 28 = some (.aload_n 0) ∧ zf 74 29 = some (.getfield 12) ∧ zf 74 32 = some (.getfield 109) ∧ zf 74 35 = some (.lmul) ∧ zf 74 36 = some (.lcmp) ∧ zf 74 37 = some (.ifCond .lt 105) ∧ zf 74 40 = some (.aload_n 0) ∧ zf 74 41 = some (.getfield 12) ∧ zf 74 44 = some (.aload_n 0) ∧ zf 74 45 = some (.getfield 37) ∧ zf 74 48 = some (.getfield 148) ∧ zf 74 51 = some (.iload_n 1) ∧ zf 74 52 = some (.iaload) ∧ zf 74 53 = some (.iconst 0) ∧ zf 74 54 = some (.invokevirtual 212) ∧ zf 74 57 = some (.aload_n 0) := by decide +kernel
theorem f74_28 : zf 74 28 = some (.aload_n 0) := cf74_28.1
theorem f74_29 : zf 74 29 = some (.getfield 12) := cf74_28.2.1
theorem f74_32 : zf 74 32 = some (.getfield 109) := cf74_28.2.2.1
theorem f74_35 : zf 74 35 = some (.lmul) := cf74_28.2.2.2.1
theorem f74_36 : zf 74 36 = some (.lcmp) := cf74_28.2.2.2.2.1
theorem f74_37 : zf 74 37 = some (.ifCond .lt 105) := cf74_28.2.2.2.2.2.1
theorem f74_40 : zf 74 40 = some (.aload_n 0) := cf74_28.2.2.2.2.2.2.1
theorem f74_41 : zf 74 41 = some (.getfield 12) := cf74_28.2.2.2.2.2.2.2.1
theorem f74_44 : zf 74 44 = some (.aload_n 0) := cf74_28.2.2.2.2.2.2.2.2.1
theorem f74_45 : zf 74 45 = some (.getfield 37) := cf74_28.2.2.2.2.2.2.2.2.2.1
theorem f74_48 : zf 74 48 = some (.getfield 148) := cf74_28.2.2.2.2.2.2.2.2.2.2.1
theorem f74_51 : zf 74 51 = some (.iload_n 1) := cf74_28.2.2.2.2.2.2.2.2.2.2.2.1
theorem f74_52 : zf 74 52 = some (.iaload) := cf74_28.2.2.2.2.2.2.2.2.2.2.2.2.1
theorem f74_53 : zf 74 53 = some (.iconst 0) := cf74_28.2.2.2.2.2.2.2.2.2.2.2.2.2.1
theorem f74_54 : zf 74 54 = some (.invokevirtual 212) := cf74_28.2.2.2.2.2.2.2.2.2.2.2.2.2.2.1
theorem f74_57 : zf 74 57 = some (.aload_n 0) := cf74_28.2.2.2.2.2.2.2.2.2.2.2.2.2.2.2
theorem cf74_58 : zf 74 58 = some (.getfield 12) ∧ zf 74 61 = some (.getfield 215) ∧ zf 74 64 = some (.iload_n 1) ∧ zf 74 65 = some (.dup2) ∧ zf 74 66 = some (.iaload) ∧ zf 74 67 = some (.iconst 1) ∧ zf 74 68 = some (.iadd) ∧ zf 74 69 = some (.iastore) ∧ zf 74 70 = some (.aload_n 0) ∧ zf 74 71 = some (.iconst 4) ∧ zf 74 72 = some (.iload_n 1) ∧ zf 74 73 = some (.invokevirtual 203) ∧ zf 74 76 = some (.goto 66) ∧ zf 74 79 = some (.aload_n 0) ∧ zf 74 80 = some (.iload_n 1) ∧ zf 74 81 = some (.iconst 0) := by decide +kernel
theorem f74_58 : zf 74 58 = some (.getfield 12) := cf74_58.1
theorem f74_61 : zf 74 61 = some (.getfield 215) := cf74_58.2.1
theorem f74_64 : zf 74 64 = some (.iload_n 1) := cf74_58.2.2.1
theorem f74_65 : zf 74 65 = some (.dup2) := cf74_58.2.2.2.1
theorem f74_66 : zf 74 66 = some (.iaload) := cf74_58.2.2.2.2.1
theorem f74_67 : zf 74 67 = some (.iconst 1) := cf74_58.2.2.2.2.2.1
theorem f74_68 : zf 74 68 = some (.iadd) := cf74_58.2.2.2.2.2.2.1
theorem f74_69 : zf 74 69 = some (.iastore) := cf74_58.2.2.2.2.2.2.2.1
theorem f74_70 : zf 74 70 = some (.aload_n 0) := cf74_58.2.2.2.2.2.2.2.2.1
theorem f74_71 : zf 74 71 = some (.iconst 4) := cf74_58.2.2.2.2.2.2.2.2.2.1
theorem f74_72 : zf 74 72 = some (.iload_n 1) := cf74_58.2.2.2.2.2.2.2.2.2.2.1
theorem f74_73 : zf 74 73 = some (.invokevirtual 203) := cf74_58.2.2.2.2.2.2.2.2.2.2.2.1
theorem f74_76 : zf 74 76 = some (.goto 66) := cf74_58.2.2.2.2.2.2.2.2.2.2.2.2.1
theorem f74_79 : zf 74 79 = some (.aload_n 0) := cf74_58.2.2.2.2.2.2.2.2.2.2.2.2.2.1
theorem f74_80 : zf 74 80 = some (.iload_n 1) := cf74_58.2.2.2.2.2.2.2.2.2.2.2.2.2.2.1
theorem f74_81 : zf 74 81 = some (.iconst 0) := cf74_58.2.2.2.2.2.2.2.2.2.2.2.2.2.2.2
theorem cf74_82 : zf 74 82 = some (.invokevirtual 135) ∧ zf 74 85 = some (.ifCond .eq 57) ∧ zf 74 88 = some (.aload_n 0) ∧ zf 74 89 = some (.getfield 12) ∧ zf 74 92 = some (.getfield 87) ∧ zf 74 95 = some (.iload_n 1) ∧ zf 74 96 = some (.laload) ∧ zf 74 97 = some (.aload_n 0) ∧ zf 74 98 = some (.getfield 37) ∧ zf 74 101 = some (.getfield 142) ∧ zf 74 104 = some (.iload_n 1) ∧ zf 74 105 = some (.iaload) ∧ zf 74 106 = some (.i2l) ∧ zf 74 107 = some (.aload_n 0) ∧ zf 74 108 = some (.getfield 12) ∧ zf 74 111 = some (.getfield 109) := by decide +kernel
theorem f74_82 : zf 74 82 = some (.invokevirtual 135) := cf74_82.1
theorem f74_85 : zf 74 85 = some (.ifCond .eq 57) := cf74_82.2.1
theorem f74_88 : zf 74 88 = some (.aload_n 0) := cf74_82.2.2.1
theorem f74_89 : zf 74 89 = some (.getfield 12) := cf74_82.2.2.2.1
theorem f74_92 : zf 74 92 = some (.getfield 87) := cf74_82.2.2.2.2.1
theorem f74_95 : zf 74 95 = some (.iload_n 1) := cf74_82.2.2.2.2.2.1
theorem f74_96 : zf 74 96 = some (.laload) := cf74_82.2.2.2.2.2.2.1
theorem f74_97 : zf 74 97 = some (.aload_n 0) := cf74_82.2.2.2.2.2.2.2.1
theorem f74_98 : zf 74 98 = some (.getfield 37) := cf74_82.2.2.2.2.2.2.2.2.1
theorem f74_101 : zf 74 101 = some (.getfield 142) := cf74_82.2.2.2.2.2.2.2.2.2.1
theorem f74_104 : zf 74 104 = some (.iload_n 1) := cf74_82.2.2.2.2.2.2.2.2.2.2.1
theorem f74_105 : zf 74 105 = some (.iaload) := cf74_82.2.2.2.2.2.2.2.2.2.2.2.1
theorem f74_106 : zf 74 106 = some (.i2l) := cf74_82.2.2.2.2.2.2.2.2.2.2.2.2.1
theorem f74_107 : zf 74 107 = some (.aload_n 0) := cf74_82.2.2.2.2.2.2.2.2.2.2.2.2.2.1
theorem f74_108 : zf 74 108 = some (.getfield 12) := cf74_82.2.2.2.2.2.2.2.2.2.2.2.2.2.2.1
theorem f74_111 : zf 74 111 = some (.getfield 109) := cf74_82.2.2.2.2.2.2.2.2.2.2.2.2.2.2.2
theorem cf74_114 : zf 74 114 = some (.lmul) ∧ zf 74 115 = some (.lcmp) ∧ zf 74 116 = some (.ifCond .gt 26) ∧ zf 74 119 = some (.aload_n 0) ∧ zf 74 120 = some (.getfield 12) ∧ zf 74 123 = some (.aload_n 0) ∧ zf 74 124 = some (.getfield 37) ∧ zf 74 127 = some (.getfield 148) ∧ zf 74 130 = some (.iload_n 1) ∧ zf 74 131 = some (.iaload) ∧ zf 74 132 = some (.iconst 1) ∧ zf 74 133 = some (.invokevirtual 212) ∧ zf 74 136 = some (.aload_n 0) ∧ zf 74 137 = some (.iconst 5) ∧ zf 74 138 = some (.iload_n 1) ∧ zf 74 139 = some (.invokevirtual 203) := by decide +kernel
theorem f74_114 : zf 74 114 = some (.lmul) := cf74_114.1
theorem f74_115 : zf 74 115 = some (.lcmp) := cf74_114.2.1
theorem f74_116 : zf 74 116 = some (.ifCond .gt 26) := cf74_114.2.2.1
theorem f74_119 : zf 74 119 = some (.aload_n 0) := cf74_114.2.2.2.1
theorem f74_120 : zf 74 120 = some (.getfield 12) := cf74_114.2.2.2.2.1
theorem f74_123 : zf 74 123 = some (.aload_n 0) := cf74_114.2.2.2.2.2.1
theorem f74_124 : zf 74 124 = some (.getfield 37) := cf74_114.2.2.2.2.2.2.1
theorem f74_127 : zf 74 127 = some (.getfield 148) := cf74_114.2.2.2.2.2.2.2.1
theorem f74_130 : zf 74 130 = some (.iload_n 1) := cf74_114.2.2.2.2.2.2.2.2.1
theorem f74_131 : zf 74 131 = some (.iaload) := cf74_114.2.2.2.2.2.2.2.2.2.1
theorem f74_132 : zf 74 132 = some (.iconst 1) := cf74_114.2.2.2.2.2.2.2.2.2.2.1
theorem f74_133 : zf 74 133 = some (.invokevirtual 212) := cf74_114.2.2.2.2.2.2.2.2.2.2.2.1
theorem f74_136 : zf 74 136 = some (.aload_n 0) := cf74_114.2.2.2.2.2.2.2.2.2.2.2.2.1
theorem f74_137 : zf 74 137 = some (.iconst 5) := cf74_114.2.2.2.2.2.2.2.2.2.2.2.2.2.1
theorem f74_138 : zf 74 138 = some (.iload_n 1) := cf74_114.2.2.2.2.2.2.2.2.2.2.2.2.2.2.1
theorem f74_139 : zf 74 139 = some (.invokevirtual 203) := cf74_114.2.2.2.2.2.2.2.2.2.2.2.2.2.2.2
theorem f74_142 : zf 74 142 = some (.return_) := by decide +kernel
theorem cf75_0 : zf 75 0 = some (.aload_n 0) ∧ zf 75 1 = some (.getfield 161) ∧ zf 75 4 = some (.bipush 8) ∧ zf 75 6 = some (.if_icmp .ge 33) ∧ zf 75 9 = some (.aload_n 0) ∧ zf 75 10 = some (.getfield 31) ∧ zf 75 13 = some (.aload_n 0) ∧ zf 75 14 = some (.getfield 161) ∧ zf 75 17 = some (.iload_n 1) ∧ zf 75 18 = some (.iastore) ∧ zf 75 19 = some (.aload_n 0) ∧ zf 75 20 = some (.getfield 34) ∧ zf 75 23 = some (.aload_n 0) ∧ zf 75 24 = some (.getfield 161) ∧ zf 75 27 = some (.iload_n 2) ∧ zf 75 28 = some (.iastore) := by decide +kernel
theorem f75_0 : zf 75 0 = some (.aload_n 0) := cf75_0.1
theorem f75_1 : zf 75 1 = some (.getfield 161) := cf75_0.2.1
theorem f75_4 : zf 75 4 = some (.bipush 8) := cf75_0.2.2.1
theorem f75_6 : zf 75 6 = some (.if_icmp .ge 33) := cf75_0.2.2.2.1
theorem f75_9 : zf 75 9 = some (.aload_n 0) := cf75_0.2.2.2.2.1
theorem f75_10 : zf 75 10 = some (.getfield 31) := cf75_0.2.2.2.2.2.1
theorem f75_13 : zf 75 13 = some (.aload_n 0) := cf75_0.2.2.2.2.2.2.1
theorem f75_14 : zf 75 14 = some (.getfield 161) := cf75_0.2.2.2.2.2.2.2.1
theorem f75_17 : zf 75 17 = some (.iload_n 1) := cf75_0.2.2.2.2.2.2.2.2.1
theorem f75_18 : zf 75 18 = some (.iastore) := cf75_0.2.2.2.2.2.2.2.2.2.1
theorem f75_19 : zf 75 19 = some (.aload_n 0) := cf75_0.2.2.2.2.2.2.2.2.2.2.1
theorem f75_20 : zf 75 20 = some (.getfield 34) := cf75_0.2.2.2.2.2.2.2.2.2.2.2.1
theorem f75_23 : zf 75 23 = some (.aload_n 0) := cf75_0.2.2.2.2.2.2.2.2.2.2.2.2.1
theorem f75_24 : zf 75 24 = some (.getfield 161) := cf75_0.2.2.2.2.2.2.2.2.2.2.2.2.2.1
theorem f75_27 : zf 75 27 = some (.iload_n 2) := cf75_0.2.2.2.2.2.2.2.2.2.2.2.2.2.2.1
theorem f75_28 : zf 75 28 = some (.iastore) := cf75_0.2.2.2.2.2.2.2.2.2.2.2.2.2.2.2
theorem cf75_29 : zf 75 29 = some (.aload_n 0) ∧ zf 75 30 = some (.dup) ∧ zf 75 31 = some (.getfield 161) ∧ zf 75 34 = some (.iconst 1) ∧ zf 75 35 = some (.iadd) ∧ zf 75 36 = some (.putfield 161) ∧ zf 75 39 = some (.return_) := by decide +kernel
theorem f75_29 : zf 75 29 = some (.aload_n 0) := cf75_29.1
theorem f75_30 : zf 75 30 = some (.dup) := cf75_29.2.1
theorem f75_31 : zf 75 31 = some (.getfield 161) := cf75_29.2.2.1
theorem f75_34 : zf 75 34 = some (.iconst 1) := cf75_29.2.2.2.1
theorem f75_35 : zf 75 35 = some (.iadd) := cf75_29.2.2.2.2.1
theorem f75_36 : zf 75 36 = some (.putfield 161) := cf75_29.2.2.2.2.2.1
theorem f75_39 : zf 75 39 = some (.return_) := cf75_29.2.2.2.2.2.2
theorem cf76_0 : zf 76 0 = some (.iconst 0) ∧ zf 76 1 = some (.istore_n 3) ∧ zf 76 2 = some (.iload_n 3) ∧ zf 76 3 = some (.aload_n 0) ∧ zf 76 4 = some (.getfield 161) ∧ zf 76 7 = some (.if_icmp .ge 37) ∧ zf 76 10 = some (.iload_n 3) ∧ zf 76 11 = some (.bipush 8) ∧ zf 76 13 = some (.if_icmp .ge 31) ∧ zf 76 16 = some (.aload_n 0) ∧ zf 76 17 = some (.getfield 31) ∧ zf 76 20 = some (.iload_n 3) ∧ zf 76 21 = some (.iaload) ∧ zf 76 22 = some (.iload_n 1) ∧ zf 76 23 = some (.if_icmp .ne 15) ∧ zf 76 26 = some (.aload_n 0) := by decide +kernel
theorem f76_0 : zf 76 0 = some (.iconst 0) := cf76_0.1
theorem f76_1 : zf 76 1 = some (.istore_n 3) := cf76_0.2.1
theorem f76_2 : zf 76 2 = some (.iload_n 3) := cf76_0.2.2.1
theorem f76_3 : zf 76 3 = some (.aload_n 0) := cf76_0.2.2.2.1
theorem f76_4 : zf 76 4 = some (.getfield 161) := cf76_0.2.2.2.2.1
theorem f76_7 : zf 76 7 = some (.if_icmp .ge 37) := cf76_0.2.2.2.2.2.1
theorem f76_10 : zf 76 10 = some (.iload_n 3) := cf76_0.2.2.2.2.2.2.1
theorem f76_11 : zf 76 11 = some (.bipush 8) := cf76_0.2.2.2.2.2.2.2.1
theorem f76_13 : zf 76 13 = some (.if_icmp .ge 31) := cf76_0.2.2.2.2.2.2.2.2.1
theorem f76_16 : zf 76 16 = some (.aload_n 0) := cf76_0.2.2.2.2.2.2.2.2.2.1
theorem f76_17 : zf 76 17 = some (.getfield 31) := cf76_0.2.2.2.2.2.2.2.2.2.2.1
theorem f76_20 : zf 76 20 = some (.iload_n 3) := cf76_0.2.2.2.2.2.2.2.2.2.2.2.1
theorem f76_21 : zf 76 21 = some (.iaload) := cf76_0.2.2.2.2.2.2.2.2.2.2.2.2.1
theorem f76_22 : zf 76 22 = some (.iload_n 1) := cf76_0.2.2.2.2.2.2.2.2.2.2.2.2.2.1
theorem f76_23 : zf 76 23 = some (.if_icmp .ne 15) := cf76_0.2.2.2.2.2.2.2.2.2.2.2.2.2.2.1
theorem f76_26 : zf 76 26 = some (.aload_n 0) := cf76_0.2.2.2.2.2.2.2.2.2.2.2.2.2.2.2
theorem cf76_27 : zf 76 27 = some (.getfield 34) ∧ zf 76 30 = some (.iload_n 3) ∧ zf 76 31 = some (.iaload) ∧ zf 76 32 = some (.iload_n 2) ∧ zf 76 33 = some (.if_icmp .ne 5) ∧ zf 76 36 = some (.iconst 1) ∧ zf 76 37 = some (.ireturn) ∧ zf 76 38 = some (.iinc 3 1) ∧ zf 76 41 = some (.goto (-39)) ∧ zf 76 44 = some (.iconst 0) ∧ zf 76 45 = some (.ireturn) := by decide +kernel
theorem f76_27 : zf 76 27 = some (.getfield 34) := cf76_27.1
theorem f76_30 : zf 76 30 = some (.iload_n 3) := cf76_27.2.1
theorem f76_31 : zf 76 31 = some (.iaload) := cf76_27.2.2.1
theorem f76_32 : zf 76 32 = some (.iload_n 2) := cf76_27.2.2.2.1
theorem f76_33 : zf 76 33 = some (.if_icmp .ne 5) := cf76_27.2.2.2.2.1
theorem f76_36 : zf 76 36 = some (.iconst 1) := cf76_27.2.2.2.2.2.1
theorem f76_37 : zf 76 37 = some (.ireturn) := cf76_27.2.2.2.2.2.2.1
theorem f76_38 : zf 76 38 = some (.iinc 3 1) := cf76_27.2.2.2.2.2.2.2.1
theorem f76_41 : zf 76 41 = some (.goto (-39)) := cf76_27.2.2.2.2.2.2.2.2.1
theorem f76_44 : zf 76 44 = some (.iconst 0) := cf76_27.2.2.2.2.2.2.2.2.2.1
theorem f76_45 : zf 76 45 = some (.ireturn) := cf76_27.2.2.2.2.2.2.2.2.2.2
