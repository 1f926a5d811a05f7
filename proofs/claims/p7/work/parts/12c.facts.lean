theorem cf77_0 : zf 77 0 = some (.aload_n 0) ∧ zf 77 1 = some (.invokespecial 1) ∧ zf 77 4 = some (.aload_n 0) ∧ zf 77 5 = some (.new 7) ∧ zf 77 8 = some (.dup) ∧ zf 77 9 = some (.invokespecial 9) ∧ zf 77 12 = some (.putfield 10) ∧ zf 77 15 = some (.aload_n 0) ∧ zf 77 16 = some (.new 16) ∧ zf 77 19 = some (.dup) ∧ zf 77 20 = some (.aload_n 0) ∧ zf 77 21 = some (.getfield 10) ∧ zf 77 24 = some (.invokespecial 18) ∧ zf 77 27 = some (.putfield 21) ∧ zf 77 30 = some (.aload_n 0) ∧ zf 77 31 = some (.new 16) := by decide +kernel
theorem f77_0 : zf 77 0 = some (.aload_n 0) := cf77_0.1
theorem f77_1 : zf 77 1 = some (.invokespecial 1) := cf77_0.2.1
theorem f77_4 : zf 77 4 = some (.aload_n 0) := cf77_0.2.2.1
theorem f77_5 : zf 77 5 = some (.new 7) := cf77_0.2.2.2.1
theorem f77_8 : zf 77 8 = some (.dup) := cf77_0.2.2.2.2.1
theorem f77_9 : zf 77 9 = some (.invokespecial 9) := cf77_0.2.2.2.2.2.1
theorem f77_12 : zf 77 12 = some (.putfield 10) := cf77_0.2.2.2.2.2.2.1
theorem f77_15 : zf 77 15 = some (.aload_n 0) := cf77_0.2.2.2.2.2.2.2.1
theorem f77_16 : zf 77 16 = some (.new 16) := cf77_0.2.2.2.2.2.2.2.2.1
theorem f77_19 : zf 77 19 = some (.dup) := cf77_0.2.2.2.2.2.2.2.2.2.1
theorem f77_20 : zf 77 20 = some (.aload_n 0) := cf77_0.2.2.2.2.2.2.2.2.2.2.1
theorem f77_21 : zf 77 21 = some (.getfield 10) := cf77_0.2.2.2.2.2.2.2.2.2.2.2.1
theorem f77_24 : zf 77 24 = some (.invokespecial 18) := cf77_0.2.2.2.2.2.2.2.2.2.2.2.2.1
theorem f77_27 : zf 77 27 = some (.putfield 21) := cf77_0.2.2.2.2.2.2.2.2.2.2.2.2.2.1
theorem f77_30 : zf 77 30 = some (.aload_n 0) := cf77_0.2.2.2.2.2.2.2.2.2.2.2.2.2.2.1
theorem f77_31 : zf 77 31 = some (.new 16) := cf77_0.2.2.2.2.2.2.2.2.2.2.2.2.2.2.2
theorem cf77_34 : zf 77 34 = some (.dup) ∧ zf 77 35 = some (.aload_n 0) ∧ zf 77 36 = some (.getfield 10) ∧ zf 77 39 = some (.invokespecial 18) ∧ zf 77 42 = some (.putfield 25) ∧ zf 77 45 = some (.aload_n 0) ∧ zf 77 46 = some (.new 28) ∧ zf 77 49 = some (.dup) ∧ zf 77 50 = some (.invokespecial 30) ∧ zf 77 53 = some (.putfield 31) ∧ zf 77 56 = some (.aload_n 0) ∧ zf 77 57 = some (.new 35) ∧ zf 77 60 = some (.dup) ∧ zf 77 61 = some (.invokespecial 37) ∧ zf 77 64 = some (.putfield 38) ∧ zf 77 67 = some (.aload_n 0) := by decide +kernel
theorem f77_34 : zf 77 34 = some (.dup) := cf77_34.1
theorem f77_35 : zf 77 35 = some (.aload_n 0) := cf77_34.2.1
theorem f77_36 : zf 77 36 = some (.getfield 10) := cf77_34.2.2.1
theorem f77_39 : zf 77 39 = some (.invokespecial 18) := cf77_34.2.2.2.1
theorem f77_42 : zf 77 42 = some (.putfield 25) := cf77_34.2.2.2.2.1
theorem f77_45 : zf 77 45 = some (.aload_n 0) := cf77_34.2.2.2.2.2.1
theorem f77_46 : zf 77 46 = some (.new 28) := cf77_34.2.2.2.2.2.2.1
theorem f77_49 : zf 77 49 = some (.dup) := cf77_34.2.2.2.2.2.2.2.1
theorem f77_50 : zf 77 50 = some (.invokespecial 30) := cf77_34.2.2.2.2.2.2.2.2.1
theorem f77_53 : zf 77 53 = some (.putfield 31) := cf77_34.2.2.2.2.2.2.2.2.2.1
theorem f77_56 : zf 77 56 = some (.aload_n 0) := cf77_34.2.2.2.2.2.2.2.2.2.2.1
theorem f77_57 : zf 77 57 = some (.new 35) := cf77_34.2.2.2.2.2.2.2.2.2.2.2.1
theorem f77_60 : zf 77 60 = some (.dup) := cf77_34.2.2.2.2.2.2.2.2.2.2.2.2.1
theorem f77_61 : zf 77 61 = some (.invokespecial 37) := cf77_34.2.2.2.2.2.2.2.2.2.2.2.2.2.1
theorem f77_64 : zf 77 64 = some (.putfield 38) := cf77_34.2.2.2.2.2.2.2.2.2.2.2.2.2.2.1
theorem f77_67 : zf 77 67 = some (.aload_n 0) := cf77_34.2.2.2.2.2.2.2.2.2.2.2.2.2.2.2
theorem cf77_68 : zf 77 68 = some (.new 42) ∧ zf 77 71 = some (.dup) ∧ zf 77 72 = some (.invokespecial 44) ∧ zf 77 75 = some (.putfield 45) ∧ zf 77 78 = some (.aload_n 0) ∧ zf 77 79 = some (.iconst 5) ∧ zf 77 80 = some (.anewarray 49) ∧ zf 77 83 = some (.putfield 51) ∧ zf 77 86 = some (.aload_n 0) ∧ zf 77 87 = some (.getfield 51) ∧ zf 77 90 = some (.iconst 0) ∧ zf 77 91 = some (.new 49) ∧ zf 77 94 = some (.dup) ∧ zf 77 95 = some (.aload_n 0) ∧ zf 77 96 = some (.getfield 45) ∧ zf 77 99 = some (.invokespecial 55) := by decide +kernel
theorem f77_68 : zf 77 68 = some (.new 42) := cf77_68.1
theorem f77_71 : zf 77 71 = some (.dup) := cf77_68.2.1
theorem f77_72 : zf 77 72 = some (.invokespecial 44) := cf77_68.2.2.1
theorem f77_75 : zf 77 75 = some (.putfield 45) := cf77_68.2.2.2.1
theorem f77_78 : zf 77 78 = some (.aload_n 0) := cf77_68.2.2.2.2.1
theorem f77_79 : zf 77 79 = some (.iconst 5) := cf77_68.2.2.2.2.2.1
theorem f77_80 : zf 77 80 = some (.anewarray 49) := cf77_68.2.2.2.2.2.2.1
theorem f77_83 : zf 77 83 = some (.putfield 51) := cf77_68.2.2.2.2.2.2.2.1
theorem f77_86 : zf 77 86 = some (.aload_n 0) := cf77_68.2.2.2.2.2.2.2.2.1
theorem f77_87 : zf 77 87 = some (.getfield 51) := cf77_68.2.2.2.2.2.2.2.2.2.1
theorem f77_90 : zf 77 90 = some (.iconst 0) := cf77_68.2.2.2.2.2.2.2.2.2.2.1
theorem f77_91 : zf 77 91 = some (.new 49) := cf77_68.2.2.2.2.2.2.2.2.2.2.2.1
theorem f77_94 : zf 77 94 = some (.dup) := cf77_68.2.2.2.2.2.2.2.2.2.2.2.2.1
theorem f77_95 : zf 77 95 = some (.aload_n 0) := cf77_68.2.2.2.2.2.2.2.2.2.2.2.2.2.1
theorem f77_96 : zf 77 96 = some (.getfield 45) := cf77_68.2.2.2.2.2.2.2.2.2.2.2.2.2.2.1
theorem f77_99 : zf 77 99 = some (.invokespecial 55) := cf77_68.2.2.2.2.2.2.2.2.2.2.2.2.2.2.2
theorem cf77_102 : zf 77 102 = some (.aastore) ∧ zf 77 103 = some (.aload_n 0) ∧ zf 77 104 = some (.getfield 51) ∧ zf 77 107 = some (.iconst 1) ∧ zf 77 108 = some (.new 58) ∧ zf 77 111 = some (.dup) ∧ zf 77 112 = some (.aload_n 0) ∧ zf 77 113 = some (.getfield 45) ∧ zf 77 116 = some (.invokespecial 60) ∧ zf 77 119 = some (.aastore) ∧ zf 77 120 = some (.aload_n 0) ∧ zf 77 121 = some (.getfield 51) ∧ zf 77 124 = some (.iconst 2) ∧ zf 77 125 = some (.new 61) ∧ zf 77 128 = some (.dup) ∧ zf 77 129 = some (.aload_n 0) := by decide +kernel
theorem f77_102 : zf 77 102 = some (.aastore) := cf77_102.1
theorem f77_103 : zf 77 103 = some (.aload_n 0) := cf77_102.2.1
theorem f77_104 : zf 77 104 = some (.getfield 51) := cf77_102.2.2.1
theorem f77_107 : zf 77 107 = some (.iconst 1) := cf77_102.2.2.2.1
theorem f77_108 : zf 77 108 = some (.new 58) := cf77_102.2.2.2.2.1
theorem f77_111 : zf 77 111 = some (.dup) := cf77_102.2.2.2.2.2.1
theorem f77_112 : zf 77 112 = some (.aload_n 0) := cf77_102.2.2.2.2.2.2.1
theorem f77_113 : zf 77 113 = some (.getfield 45) := cf77_102.2.2.2.2.2.2.2.1
theorem f77_116 : zf 77 116 = some (.invokespecial 60) := cf77_102.2.2.2.2.2.2.2.2.1
theorem f77_119 : zf 77 119 = some (.aastore) := cf77_102.2.2.2.2.2.2.2.2.2.1
theorem f77_120 : zf 77 120 = some (.aload_n 0) := cf77_102.2.2.2.2.2.2.2.2.2.2.1
theorem f77_121 : zf 77 121 = some (.getfield 51) := cf77_102.2.2.2.2.2.2.2.2.2.2.2.1
theorem f77_124 : zf 77 124 = some (.iconst 2) := cf77_102.2.2.2.2.2.2.2.2.2.2.2.2.1
theorem f77_125 : zf 77 125 = some (.new 61) := cf77_102.2.2.2.2.2.2.2.2.2.2.2.2.2.1
theorem f77_128 : zf 77 128 = some (.dup) := cf77_102.2.2.2.2.2.2.2.2.2.2.2.2.2.2.1
theorem f77_129 : zf 77 129 = some (.aload_n 0) := cf77_102.2.2.2.2.2.2.2.2.2.2.2.2.2.2.2
theorem cf77_130 : zf 77 130 = some (.getfield 45) ∧ zf 77 133 = some (.invokespecial 63) ∧ zf 77 136 = some (.aastore) ∧ zf 77 137 = some (.aload_n 0) ∧ zf 77 138 = some (.getfield 51) ∧ zf 77 141 = some (.iconst 3) ∧ zf 77 142 = some (.new 64) ∧ zf 77 145 = some (.dup) ∧ zf 77 146 = some (.aload_n 0) ∧ zf 77 147 = some (.getfield 45) ∧ zf 77 150 = some (.invokespecial 66) ∧ zf 77 153 = some (.aastore) ∧ zf 77 154 = some (.aload_n 0) ∧ zf 77 155 = some (.getfield 51) ∧ zf 77 158 = some (.iconst 4) ∧ zf 77 159 = some (.new 67) := by decide +kernel
theorem f77_130 : zf 77 130 = some (.getfield 45) := cf77_130.1
theorem f77_133 : zf 77 133 = some (.invokespecial 63) := cf77_130.2.1
theorem f77_136 : zf 77 136 = some (.aastore) := cf77_130.2.2.1
theorem f77_137 : zf 77 137 = some (.aload_n 0) := cf77_130.2.2.2.1
theorem f77_138 : zf 77 138 = some (.getfield 51) := cf77_130.2.2.2.2.1
theorem f77_141 : zf 77 141 = some (.iconst 3) := cf77_130.2.2.2.2.2.1
theorem f77_142 : zf 77 142 = some (.new 64) := cf77_130.2.2.2.2.2.2.1
theorem f77_145 : zf 77 145 = some (.dup) := cf77_130.2.2.2.2.2.2.2.1
theorem f77_146 : zf 77 146 = some (.aload_n 0) := cf77_130.2.2.2.2.2.2.2.2.1
theorem f77_147 : zf 77 147 = some (.getfield 45) := cf77_130.2.2.2.2.2.2.2.2.2.1
theorem f77_150 : zf 77 150 = some (.invokespecial 66) := cf77_130.2.2.2.2.2.2.2.2.2.2.1
theorem f77_153 : zf 77 153 = some (.aastore) := cf77_130.2.2.2.2.2.2.2.2.2.2.2.1
theorem f77_154 : zf 77 154 = some (.aload_n 0) := cf77_130.2.2.2.2.2.2.2.2.2.2.2.2.1
theorem f77_155 : zf 77 155 = some (.getfield 51) := cf77_130.2.2.2.2.2.2.2.2.2.2.2.2.2.1
theorem f77_158 : zf 77 158 = some (.iconst 4) := cf77_130.2.2.2.2.2.2.2.2.2.2.2.2.2.2.1
theorem f77_159 : zf 77 159 = some (.new 67) := cf77_130.2.2.2.2.2.2.2.2.2.2.2.2.2.2.2
theorem cf77_162 : zf 77 162 = some (.dup) ∧ zf 77 163 = some (.aload_n 0) ∧ zf 77 164 = some (.getfield 45) ∧ zf 77 167 = some (.invokespecial 69) ∧ zf 77 170 = some (.aastore) ∧ zf 77 171 = some (.aload_n 0) ∧ zf 77 172 = some (.iconst 0) ∧ zf 77 173 = some (.putfield 70) ∧ zf 77 176 = some (.return_) := by decide +kernel
theorem f77_162 : zf 77 162 = some (.dup) := cf77_162.1
theorem f77_163 : zf 77 163 = some (.aload_n 0) := cf77_162.2.1
theorem f77_164 : zf 77 164 = some (.getfield 45) := cf77_162.2.2.1
theorem f77_167 : zf 77 167 = some (.invokespecial 69) := cf77_162.2.2.2.1
theorem f77_170 : zf 77 170 = some (.aastore) := cf77_162.2.2.2.2.1
theorem f77_171 : zf 77 171 = some (.aload_n 0) := cf77_162.2.2.2.2.2.1
theorem f77_172 : zf 77 172 = some (.iconst 0) := cf77_162.2.2.2.2.2.2.1
theorem f77_173 : zf 77 173 = some (.putfield 70) := cf77_162.2.2.2.2.2.2.2.1
theorem f77_176 : zf 77 176 = some (.return_) := cf77_162.2.2.2.2.2.2.2.2
theorem cf78_0 : zf 78 0 = some (.iload_n 1) ∧ zf 78 1 = some (.iconst 0) ∧ zf 78 2 = some (.iconst 4) ∧ zf 78 3 = some (.invokestatic 74) ∧ zf 78 6 = some (.ifCond .eq 14) ∧ zf 78 9 = some (.iload_n 2) ∧ zf 78 10 = some (.iconst 1) ∧ zf 78 11 = some (.sipush 200) ∧ zf 78 14 = some (.invokestatic 74) ∧ zf 78 17 = some (.ifCond .ne 9) ∧ zf 78 20 = some (.aload_n 0) ∧ zf 78 21 = some (.iconst 1) ∧ zf 78 22 = some (.invokevirtual 78) ∧ zf 78 25 = some (.ireturn) ∧ zf 78 26 = some (.aload_n 0) ∧ zf 78 27 = some (.getfield 10) := by decide +kernel
theorem f78_0 : zf 78 0 = some (.iload_n 1) := cf78_0.1
theorem f78_1 : zf 78 1 = some (.iconst 0) := cf78_0.2.1
theorem f78_2 : zf 78 2 = some (.iconst 4) := cf78_0.2.2.1
theorem f78_3 : zf 78 3 = some (.invokestatic 74) := cf78_0.2.2.2.1
theorem f78_6 : zf 78 6 = some (.ifCond .eq 14) := cf78_0.2.2.2.2.1
theorem f78_9 : zf 78 9 = some (.iload_n 2) := cf78_0.2.2.2.2.2.1
theorem f78_10 : zf 78 10 = some (.iconst 1) := cf78_0.2.2.2.2.2.2.1
theorem f78_11 : zf 78 11 = some (.sipush 200) := cf78_0.2.2.2.2.2.2.2.1
theorem f78_14 : zf 78 14 = some (.invokestatic 74) := cf78_0.2.2.2.2.2.2.2.2.1
theorem f78_17 : zf 78 17 = some (.ifCond .ne 9) := cf78_0.2.2.2.2.2.2.2.2.2.1
theorem f78_20 : zf 78 20 = some (.aload_n 0) := cf78_0.2.2.2.2.2.2.2.2.2.2.1
theorem f78_21 : zf 78 21 = some (.iconst 1) := cf78_0.2.2.2.2.2.2.2.2.2.2.2.1
theorem f78_22 : zf 78 22 = some (.invokevirtual 78) := cf78_0.2.2.2.2.2.2.2.2.2.2.2.2.1
theorem f78_25 : zf 78 25 = some (.ireturn) := cf78_0.2.2.2.2.2.2.2.2.2.2.2.2.2.1
theorem f78_26 : zf 78 26 = some (.aload_n 0) := cf78_0.2.2.2.2.2.2.2.2.2.2.2.2.2.2.1
theorem f78_27 : zf 78 27 = some (.getfield 10) := cf78_0.2.2.2.2.2.2.2.2.2.2.2.2.2.2.2
theorem cf78_30 : zf 78 30 = some (.iload_n 1) ∧ zf 78 31 = some (.iload_n 2) ∧ zf 78 32 = some (.invokevirtual 82) ∧ zf 78 35 = some (.istore_n 3) ∧ zf 78 36 = some (.iload_n 3) ∧ zf 78 37 = some (.iconst (-1)) ∧ zf 78 38 = some (.if_icmp .ne 11) ∧ zf 78 41 = some (.aload_n 0) ∧ zf 78 42 = some (.iconst 2) ∧ zf 78 43 = some (.invokevirtual 78) ∧ zf 78 46 = some (.goto 8) ∧ zf 78 49 = some (.aload_n 0) ∧ zf 78 50 = some (.iload_n 3) ∧ zf 78 51 = some (.invokevirtual 86) ∧ zf 78 54 = some (.ireturn) := by decide +kernel
theorem f78_30 : zf 78 30 = some (.iload_n 1) := cf78_30.1
theorem f78_31 : zf 78 31 = some (.iload_n 2) := cf78_30.2.1
theorem f78_32 : zf 78 32 = some (.invokevirtual 82) := cf78_30.2.2.1
theorem f78_35 : zf 78 35 = some (.istore_n 3) := cf78_30.2.2.2.1
theorem f78_36 : zf 78 36 = some (.iload_n 3) := cf78_30.2.2.2.2.1
theorem f78_37 : zf 78 37 = some (.iconst (-1)) := cf78_30.2.2.2.2.2.1
theorem f78_38 : zf 78 38 = some (.if_icmp .ne 11) := cf78_30.2.2.2.2.2.2.1
theorem f78_41 : zf 78 41 = some (.aload_n 0) := cf78_30.2.2.2.2.2.2.2.1
theorem f78_42 : zf 78 42 = some (.iconst 2) := cf78_30.2.2.2.2.2.2.2.2.1
theorem f78_43 : zf 78 43 = some (.invokevirtual 78) := cf78_30.2.2.2.2.2.2.2.2.2.1
theorem f78_46 : zf 78 46 = some (.goto 8) := cf78_30.2.2.2.2.2.2.2.2.2.2.1
theorem f78_49 : zf 78 49 = some (.aload_n 0) := cf78_30.2.2.2.2.2.2.2.2.2.2.2.1
theorem f78_50 : zf 78 50 = some (.iload_n 3) := cf78_30.2.2.2.2.2.2.2.2.2.2.2.2.1
theorem f78_51 : zf 78 51 = some (.invokevirtual 86) := cf78_30.2.2.2.2.2.2.2.2.2.2.2.2.2.1
theorem f78_54 : zf 78 54 = some (.ireturn) := cf78_30.2.2.2.2.2.2.2.2.2.2.2.2.2.2
theorem cf79_0 : zf 79 0 = some (.aload_n 0) ∧ zf 79 1 = some (.getfield 10) ∧ zf 79 4 = some (.iload_n 1) ∧ zf 79 5 = some (.invokevirtual 89) ∧ zf 79 8 = some (.ifCond .ne 9) ∧ zf 79 11 = some (.aload_n 0) ∧ zf 79 12 = some (.iconst 1) ∧ zf 79 13 = some (.invokevirtual 78) ∧ zf 79 16 = some (.ireturn) ∧ zf 79 17 = some (.aload_n 0) ∧ zf 79 18 = some (.getfield 10) ∧ zf 79 21 = some (.iload_n 1) ∧ zf 79 22 = some (.invokevirtual 93) ∧ zf 79 25 = some (.ifCond .ne 9) ∧ zf 79 28 = some (.aload_n 0) ∧ zf 79 29 = some (.iconst 3) := by decide +kernel
theorem f79_0 : zf 79 0 = some (.aload_n 0) := cf79_0.1
theorem f79_1 : zf 79 1 = some (.getfield 10) := cf79_0.2.1
theorem f79_4 : zf 79 4 = some (.iload_n 1) := cf79_0.2.2.1
theorem f79_5 : zf 79 5 = some (.invokevirtual 89) := cf79_0.2.2.2.1
theorem f79_8 : zf 79 8 = some (.ifCond .ne 9) := cf79_0.2.2.2.2.1
theorem f79_11 : zf 79 11 = some (.aload_n 0) := cf79_0.2.2.2.2.2.1
theorem f79_12 : zf 79 12 = some (.iconst 1) := cf79_0.2.2.2.2.2.2.1
theorem f79_13 : zf 79 13 = some (.invokevirtual 78) := cf79_0.2.2.2.2.2.2.2.1
theorem f79_16 : zf 79 16 = some (.ireturn) := cf79_0.2.2.2.2.2.2.2.2.1
theorem f79_17 : zf 79 17 = some (.aload_n 0) := cf79_0.2.2.2.2.2.2.2.2.2.1
theorem f79_18 : zf 79 18 = some (.getfield 10) := cf79_0.2.2.2.2.2.2.2.2.2.2.1
theorem f79_21 : zf 79 21 = some (.iload_n 1) := cf79_0.2.2.2.2.2.2.2.2.2.2.2.1
theorem f79_22 : zf 79 22 = some (.invokevirtual 93) := cf79_0.2.2.2.2.2.2.2.2.2.2.2.2.1
theorem f79_25 : zf 79 25 = some (.ifCond .ne 9) := cf79_0.2.2.2.2.2.2.2.2.2.2.2.2.2.1
theorem f79_28 : zf 79 28 = some (.aload_n 0) := cf79_0.2.2.2.2.2.2.2.2.2.2.2.2.2.2.1
theorem f79_29 : zf 79 29 = some (.iconst 3) := cf79_0.2.2.2.2.2.2.2.2.2.2.2.2.2.2.2
theorem cf79_30 : zf 79 30 = some (.invokevirtual 78) ∧ zf 79 33 = some (.ireturn) ∧ zf 79 34 = some (.iload_n 2) ∧ zf 79 35 = some (.iconst 1) ∧ zf 79 36 = some (.aload_n 0) ∧ zf 79 37 = some (.getfield 10) ∧ zf 79 40 = some (.getfield 96) ∧ zf 79 43 = some (.iload_n 1) ∧ zf 79 44 = some (.iaload) ∧ zf 79 45 = some (.invokestatic 74) ∧ zf 79 48 = some (.ifCond .ne 9) ∧ zf 79 51 = some (.aload_n 0) ∧ zf 79 52 = some (.iconst 1) ∧ zf 79 53 = some (.invokevirtual 78) ∧ zf 79 56 = some (.ireturn) ∧ zf 79 57 = some (.aload_n 0) := by decide +kernel
theorem f79_30 : zf 79 30 = some (.invokevirtual 78) := cf79_30.1
theorem f79_33 : zf 79 33 = some (.ireturn) := cf79_30.2.1
theorem f79_34 : zf 79 34 = some (.iload_n 2) := cf79_30.2.2.1
theorem f79_35 : zf 79 35 = some (.iconst 1) := cf79_30.2.2.2.1
theorem f79_36 : zf 79 36 = some (.aload_n 0) := cf79_30.2.2.2.2.1
theorem f79_37 : zf 79 37 = some (.getfield 10) := cf79_30.2.2.2.2.2.1
theorem f79_40 : zf 79 40 = some (.getfield 96) := cf79_30.2.2.2.2.2.2.1
theorem f79_43 : zf 79 43 = some (.iload_n 1) := cf79_30.2.2.2.2.2.2.2.1
theorem f79_44 : zf 79 44 = some (.iaload) := cf79_30.2.2.2.2.2.2.2.2.1
theorem f79_45 : zf 79 45 = some (.invokestatic 74) := cf79_30.2.2.2.2.2.2.2.2.2.1
theorem f79_48 : zf 79 48 = some (.ifCond .ne 9) := cf79_30.2.2.2.2.2.2.2.2.2.2.1
theorem f79_51 : zf 79 51 = some (.aload_n 0) := cf79_30.2.2.2.2.2.2.2.2.2.2.2.1
theorem f79_52 : zf 79 52 = some (.iconst 1) := cf79_30.2.2.2.2.2.2.2.2.2.2.2.2.1
theorem f79_53 : zf 79 53 = some (.invokevirtual 78) := cf79_30.2.2.2.2.2.2.2.2.2.2.2.2.2.1
theorem f79_56 : zf 79 56 = some (.ireturn) := cf79_30.2.2.2.2.2.2.2.2.2.2.2.2.2.2.1
theorem f79_57 : zf 79 57 = some (.aload_n 0) := cf79_30.2.2.2.2.2.2.2.2.2.2.2.2.2.2.2
theorem cf79_58 : zf 79 58 = some (.getfield 10) ∧ zf 79 61 = some (.iload_n 1) ∧ zf 79 62 = some (.invokevirtual 100) ∧ zf 79 65 = some (.ifCond .eq 30) ∧ zf 79 68 = some (.iload_n 3) ∧ zf 79 69 = some (.iconst 0) ∧ zf 79 70 = some (.iload_n 2) ∧ zf 79 71 = some (.iconst 1) ∧ zf 79 72 = some (.isub) ∧ zf 79 73 = some (.invokestatic 74) ∧ zf 79 76 = some (.ifCond .ne 9) ∧ zf 79 79 = some (.aload_n 0) ∧ zf 79 80 = some (.iconst 1) ∧ zf 79 81 = some (.invokevirtual 78) ∧ zf 79 84 = some (.ireturn) ∧ zf 79 85 = some (.aload_n 0) := by decide +kernel
theorem f79_58 : zf 79 58 = some (.getfield 10) := cf79_58.1
theorem f79_61 : zf 79 61 = some (.iload_n 1) := cf79_58.2.1
theorem f79_62 : zf 79 62 = some (.invokevirtual 100) := cf79_58.2.2.1
theorem f79_65 : zf 79 65 = some (.ifCond .eq 30) := cf79_58.2.2.2.1
theorem f79_68 : zf 79 68 = some (.iload_n 3) := cf79_58.2.2.2.2.1
theorem f79_69 : zf 79 69 = some (.iconst 0) := cf79_58.2.2.2.2.2.1
theorem f79_70 : zf 79 70 = some (.iload_n 2) := cf79_58.2.2.2.2.2.2.1
theorem f79_71 : zf 79 71 = some (.iconst 1) := cf79_58.2.2.2.2.2.2.2.1
theorem f79_72 : zf 79 72 = some (.isub) := cf79_58.2.2.2.2.2.2.2.2.1
theorem f79_73 : zf 79 73 = some (.invokestatic 74) := cf79_58.2.2.2.2.2.2.2.2.2.1
theorem f79_76 : zf 79 76 = some (.ifCond .ne 9) := cf79_58.2.2.2.2.2.2.2.2.2.2.1
theorem f79_79 : zf 79 79 = some (.aload_n 0) := cf79_58.2.2.2.2.2.2.2.2.2.2.2.1
theorem f79_80 : zf 79 80 = some (.iconst 1) := cf79_58.2.2.2.2.2.2.2.2.2.2.2.2.1
theorem f79_81 : zf 79 81 = some (.invokevirtual 78) := cf79_58.2.2.2.2.2.2.2.2.2.2.2.2.2.1
theorem f79_84 : zf 79 84 = some (.ireturn) := cf79_58.2.2.2.2.2.2.2.2.2.2.2.2.2.2.1
theorem f79_85 : zf 79 85 = some (.aload_n 0) := cf79_58.2.2.2.2.2.2.2.2.2.2.2.2.2.2.2
theorem cf79_86 : zf 79 86 = some (.getfield 10) ∧ zf 79 89 = some (.getfield 103) ∧ zf 79 92 = some (.iload_n 1) ∧ zf 79 93 = some (.iload_n 3) ∧ zf 79 94 = some (.iastore) ∧ zf 79 95 = some (.aload_n 0) ∧ zf 79 96 = some (.getfield 10) ∧ zf 79 99 = some (.getfield 106) ∧ zf 79 102 = some (.iload_n 1) ∧ zf 79 103 = some (.iload_n 2) ∧ zf 79 104 = some (.iastore) ∧ zf 79 105 = some (.aload_n 0) ∧ zf 79 106 = some (.iconst 1) ∧ zf 79 107 = some (.invokevirtual 86) ∧ zf 79 110 = some (.ireturn) := by decide +kernel
theorem f79_86 : zf 79 86 = some (.getfield 10) := cf79_86.1
theorem f79_89 : zf 79 89 = some (.getfield 103) := cf79_86.2.1
theorem f79_92 : zf 79 92 = some (.iload_n 1) := cf79_86.2.2.1
theorem f79_93 : zf 79 93 = some (.iload_n 3) := cf79_86.2.2.2.1
theorem f79_94 : zf 79 94 = some (.iastore) := cf79_86.2.2.2.2.1
theorem f79_95 : zf 79 95 = some (.aload_n 0) := cf79_86.2.2.2.2.2.1
theorem f79_96 : zf 79 96 = some (.getfield 10) := cf79_86.2.2.2.2.2.2.1
theorem f79_99 : zf 79 99 = some (.getfield 106) := cf79_86.2.2.2.2.2.2.2.1
theorem f79_102 : zf 79 102 = some (.iload_n 1) := cf79_86.2.2.2.2.2.2.2.2.1
theorem f79_103 : zf 79 103 = some (.iload_n 2) := cf79_86.2.2.2.2.2.2.2.2.2.1
theorem f79_104 : zf 79 104 = some (.iastore) := cf79_86.2.2.2.2.2.2.2.2.2.2.1
theorem f79_105 : zf 79 105 = some (.aload_n 0) := cf79_86.2.2.2.2.2.2.2.2.2.2.2.1
theorem f79_106 : zf 79 106 = some (.iconst 1) := cf79_86.2.2.2.2.2.2.2.2.2.2.2.2.1
theorem f79_107 : zf 79 107 = some (.invokevirtual 86) := cf79_86.2.2.2.2.2.2.2.2.2.2.2.2.2.1
theorem f79_110 : zf 79 110 = some (.ireturn) := cf79_86.2.2.2.2.2.2.2.2.2.2.2.2.2.2
theorem cf80_0 : zf 80 0 = some (.aload_n 0) ∧ zf 80 1 = some (.getfield 10) ∧ zf 80 4 = some (.iload_n 1) ∧ zf 80 5 = some (.invokevirtual 89) ∧ zf 80 8 = some (.ifCond .eq 14) ∧ zf 80 11 = some (.aload_n 0) ∧ zf 80 12 = some (.getfield 10) ∧ zf 80 15 = some (.iload_n 2) ∧ zf 80 16 = some (.invokevirtual 109) ∧ zf 80 19 = some (.ifCond .ne 9) ∧ zf 80 22 = some (.aload_n 0) ∧ zf 80 23 = some (.iconst 1) ∧ zf 80 24 = some (.invokevirtual 78) ∧ zf 80 27 = some (.ireturn) ∧ zf 80 28 = some (.aload_n 0) ∧ zf 80 29 = some (.getfield 10) := by decide +kernel
theorem f80_0 : zf 80 0 = some (.aload_n 0) := cf80_0.1
theorem f80_1 : zf 80 1 = some (.getfield 10) := cf80_0.2.1
theorem f80_4 : zf 80 4 = some (.iload_n 1) := cf80_0.2.2.1
theorem f80_5 : zf 80 5 = some (.invokevirtual 89) := cf80_0.2.2.2.1
theorem f80_8 : zf 80 8 = some (.ifCond .eq 14) := cf80_0.2.2.2.2.1
theorem f80_11 : zf 80 11 = some (.aload_n 0) := cf80_0.2.2.2.2.2.1
theorem f80_12 : zf 80 12 = some (.getfield 10) := cf80_0.2.2.2.2.2.2.1
theorem f80_15 : zf 80 15 = some (.iload_n 2) := cf80_0.2.2.2.2.2.2.2.1
theorem f80_16 : zf 80 16 = some (.invokevirtual 109) := cf80_0.2.2.2.2.2.2.2.2.1
theorem f80_19 : zf 80 19 = some (.ifCond .ne 9) := cf80_0.2.2.2.2.2.2.2.2.2.1
theorem f80_22 : zf 80 22 = some (.aload_n 0) := cf80_0.2.2.2.2.2.2.2.2.2.2.1
theorem f80_23 : zf 80 23 = some (.iconst 1) := cf80_0.2.2.2.2.2.2.2.2.2.2.2.1
theorem f80_24 : zf 80 24 = some (.invokevirtual 78) := cf80_0.2.2.2.2.2.2.2.2.2.2.2.2.1
theorem f80_27 : zf 80 27 = some (.ireturn) := cf80_0.2.2.2.2.2.2.2.2.2.2.2.2.2.1
theorem f80_28 : zf 80 28 = some (.aload_n 0) := cf80_0.2.2.2.2.2.2.2.2.2.2.2.2.2.2.1
theorem f80_29 : zf 80 29 = some (.getfield 10) := cf80_0.2.2.2.2.2.2.2.2.2.2.2.2.2.2.2
theorem cf80_32 : zf 80 32 = some (.iload_n 1) ∧ zf 80 33 = some (.invokevirtual 100) ∧ zf 80 36 = some (.ifCond .ne 28) ∧ zf 80 39 = some (.aload_n 0) ∧ zf 80 40 = some (.getfield 10) ∧ zf 80 43 = some (.iload_n 1) ∧ zf 80 44 = some (.invokevirtual 112) ∧ zf 80 47 = some (.iconst 1) ∧ zf 80 48 = some (.if_icmp .ne 20) ∧ zf 80 51 = some (.aload_n 0) ∧ zf 80 52 = some (.getfield 10) ∧ zf 80 55 = some (.getfield 115) ∧ zf 80 58 = some (.iload_n 2) ∧ zf 80 59 = some (.iaload) ∧ zf 80 60 = some (.iload_n 1) ∧ zf 80 61 = some (.if_icmp .ne 7) := by decide +kernel
theorem f80_32 : zf 80 32 = some (.iload_n 1) := cf80_32.1
theorem f80_33 : zf 80 33 = some (.invokevirtual 100) := cf80_32.2.1
theorem f80_36 : zf 80 36 = some (.ifCond .ne 28) := cf80_32.2.2.1
theorem f80_39 : zf 80 39 = some (.aload_n 0) := cf80_32.2.2.2.1
theorem f80_40 : zf 80 40 = some (.getfield 10) := cf80_32.2.2.2.2.1
theorem f80_43 : zf 80 43 = some (.iload_n 1) := cf80_32.2.2.2.2.2.1
theorem f80_44 : zf 80 44 = some (.invokevirtual 112) := cf80_32.2.2.2.2.2.2.1
theorem f80_47 : zf 80 47 = some (.iconst 1) := cf80_32.2.2.2.2.2.2.2.1
theorem f80_48 : zf 80 48 = some (.if_icmp .ne 20) := cf80_32.2.2.2.2.2.2.2.2.1
theorem f80_51 : zf 80 51 = some (.aload_n 0) := cf80_32.2.2.2.2.2.2.2.2.2.1
theorem f80_52 : zf 80 52 = some (.getfield 10) := cf80_32.2.2.2.2.2.2.2.2.2.2.1
theorem f80_55 : zf 80 55 = some (.getfield 115) := cf80_32.2.2.2.2.2.2.2.2.2.2.2.1
theorem f80_58 : zf 80 58 = some (.iload_n 2) := cf80_32.2.2.2.2.2.2.2.2.2.2.2.2.1
theorem f80_59 : zf 80 59 = some (.iaload) := cf80_32.2.2.2.2.2.2.2.2.2.2.2.2.2.1
theorem f80_60 : zf 80 60 = some (.iload_n 1) := cf80_32.2.2.2.2.2.2.2.2.2.2.2.2.2.2.1
theorem f80_61 : zf 80 61 = some (.if_icmp .ne 7) := cf80_32.2.2.2.2.2.2.2.2.2.2.2.2.2.2.2
theorem cf80_64 : zf 80 64 = some (.iconst 1) ∧ zf 80 65 = some (.goto 4) ∧ zf 80 68 = some (.iconst 0) ∧ zf 80 69 = some (.istore_n 3) ∧ zf 80 70 = some (.iload_n 3) ∧ zf 80 71 = some (.ifCond .ne 9) ∧ zf 80 74 = some (.aload_n 0) ∧ zf 80 75 = some (.iconst 3) ∧ zf 80 76 = some (.invokevirtual 78) ∧ zf 80 79 = some (.ireturn) ∧ zf 80 80 = some (.aload_n 0) ∧ zf 80 81 = some (.getfield 10) ∧ zf 80 84 = some (.getfield 118) ∧ zf 80 87 = some (.iload_n 1) ∧ zf 80 88 = some (.iload_n 2) ∧ zf 80 89 = some (.iastore) := by decide +kernel
theorem f80_64 : zf 80 64 = some (.iconst 1) := cf80_64.1
theorem f80_65 : zf 80 65 = some (.goto 4) := cf80_64.2.1
theorem f80_68 : zf 80 68 = some (.iconst 0) := cf80_64.2.2.1
theorem f80_69 : zf 80 69 = some (.istore_n 3) := cf80_64.2.2.2.1
theorem f80_70 : zf 80 70 = some (.iload_n 3) := cf80_64.2.2.2.2.1
theorem f80_71 : zf 80 71 = some (.ifCond .ne 9) := cf80_64.2.2.2.2.2.1
theorem f80_74 : zf 80 74 = some (.aload_n 0) := cf80_64.2.2.2.2.2.2.1
theorem f80_75 : zf 80 75 = some (.iconst 3) := cf80_64.2.2.2.2.2.2.2.1
theorem f80_76 : zf 80 76 = some (.invokevirtual 78) := cf80_64.2.2.2.2.2.2.2.2.1
theorem f80_79 : zf 80 79 = some (.ireturn) := cf80_64.2.2.2.2.2.2.2.2.2.1
theorem f80_80 : zf 80 80 = some (.aload_n 0) := cf80_64.2.2.2.2.2.2.2.2.2.2.1
theorem f80_81 : zf 80 81 = some (.getfield 10) := cf80_64.2.2.2.2.2.2.2.2.2.2.2.1
theorem f80_84 : zf 80 84 = some (.getfield 118) := cf80_64.2.2.2.2.2.2.2.2.2.2.2.2.1
theorem f80_87 : zf 80 87 = some (.iload_n 1) := cf80_64.2.2.2.2.2.2.2.2.2.2.2.2.2.1
theorem f80_88 : zf 80 88 = some (.iload_n 2) := cf80_64.2.2.2.2.2.2.2.2.2.2.2.2.2.2.1
theorem f80_89 : zf 80 89 = some (.iastore) := cf80_64.2.2.2.2.2.2.2.2.2.2.2.2.2.2.2
theorem cf80_90 : zf 80 90 = some (.aload_n 0) ∧ zf 80 91 = some (.iconst 1) ∧ zf 80 92 = some (.invokevirtual 86) ∧ zf 80 95 = some (.ireturn) := by decide +kernel
theorem f80_90 : zf 80 90 = some (.aload_n 0) := cf80_90.1
theorem f80_91 : zf 80 91 = some (.iconst 1) := cf80_90.2.1
theorem f80_92 : zf 80 92 = some (.invokevirtual 86) := cf80_90.2.2.1
theorem f80_95 : zf 80 95 = some (.ireturn) := cf80_90.2.2.2
theorem cf81_0 : zf 81 0 = some (.aload_n 0) ∧ zf 81 1 = some (.getfield 10) ∧ zf 81 4 = some (.iload_n 1) ∧ zf 81 5 = some (.invokevirtual 89) ∧ zf 81 8 = some (.ifCond .eq 15) ∧ zf 81 11 = some (.aload_n 0) ∧ zf 81 12 = some (.getfield 10) ∧ zf 81 15 = some (.iload_n 2) ∧ zf 81 16 = some (.iload_n 1) ∧ zf 81 17 = some (.invokevirtual 121) ∧ zf 81 20 = some (.ifCond .ne 9) ∧ zf 81 23 = some (.aload_n 0) ∧ zf 81 24 = some (.iconst 1) ∧ zf 81 25 = some (.invokevirtual 78) ∧ zf 81 28 = some (.ireturn) ∧ zf 81 29 = some (.aload_n 0) := by decide +kernel
theorem f81_0 : zf 81 0 = some (.aload_n 0) := cf81_0.1
theorem f81_1 : zf 81 1 = some (.getfield 10) := cf81_0.2.1
theorem f81_4 : zf 81 4 = some (.iload_n 1) := cf81_0.2.2.1
theorem f81_5 : zf 81 5 = some (.invokevirtual 89) := cf81_0.2.2.2.1
theorem f81_8 : zf 81 8 = some (.ifCond .eq 15) := cf81_0.2.2.2.2.1
theorem f81_11 : zf 81 11 = some (.aload_n 0) := cf81_0.2.2.2.2.2.1
theorem f81_12 : zf 81 12 = some (.getfield 10) := cf81_0.2.2.2.2.2.2.1
theorem f81_15 : zf 81 15 = some (.iload_n 2) := cf81_0.2.2.2.2.2.2.2.1
theorem f81_16 : zf 81 16 = some (.iload_n 1) := cf81_0.2.2.2.2.2.2.2.2.1
theorem f81_17 : zf 81 17 = some (.invokevirtual 121) := cf81_0.2.2.2.2.2.2.2.2.2.1
theorem f81_20 : zf 81 20 = some (.ifCond .ne 9) := cf81_0.2.2.2.2.2.2.2.2.2.2.1
theorem f81_23 : zf 81 23 = some (.aload_n 0) := cf81_0.2.2.2.2.2.2.2.2.2.2.2.1
theorem f81_24 : zf 81 24 = some (.iconst 1) := cf81_0.2.2.2.2.2.2.2.2.2.2.2.2.1
theorem f81_25 : zf 81 25 = some (.invokevirtual 78) := cf81_0.2.2.2.2.2.2.2.2.2.2.2.2.2.1
theorem f81_28 : zf 81 28 = some (.ireturn) := cf81_0.2.2.2.2.2.2.2.2.2.2.2.2.2.2.1
theorem f81_29 : zf 81 29 = some (.aload_n 0) := cf81_0.2.2.2.2.2.2.2.2.2.2.2.2.2.2.2
theorem cf81_30 : zf 81 30 = some (.getfield 10) ∧ zf 81 33 = some (.iload_n 1) ∧ zf 81 34 = some (.invokevirtual 112) ∧ zf 81 37 = some (.iconst 2) ∧ zf 81 38 = some (.if_icmp .eq 9) ∧ zf 81 41 = some (.aload_n 0) ∧ zf 81 42 = some (.iconst 3) ∧ zf 81 43 = some (.invokevirtual 78) ∧ zf 81 46 = some (.ireturn) ∧ zf 81 47 = some (.aload_n 0) ∧ zf 81 48 = some (.getfield 10) ∧ zf 81 51 = some (.getfield 125) ∧ zf 81 54 = some (.iload_n 1) ∧ zf 81 55 = some (.iload_n 2) ∧ zf 81 56 = some (.iastore) ∧ zf 81 57 = some (.aload_n 0) := by decide +kernel
theorem f81_30 : zf 81 30 = some (.getfield 10) := cf81_30.1
theorem f81_33 : zf 81 33 = some (.iload_n 1) := cf81_30.2.1
theorem f81_34 : zf 81 34 = some (.invokevirtual 112) := cf81_30.2.2.1
theorem f81_37 : zf 81 37 = some (.iconst 2) := cf81_30.2.2.2.1
theorem f81_38 : zf 81 38 = some (.if_icmp .eq 9) := cf81_30.2.2.2.2.1
theorem f81_41 : zf 81 41 = some (.aload_n 0) := cf81_30.2.2.2.2.2.1
theorem f81_42 : zf 81 42 = some (.iconst 3) := cf81_30.2.2.2.2.2.2.1
theorem f81_43 : zf 81 43 = some (.invokevirtual 78) := cf81_30.2.2.2.2.2.2.2.1
theorem f81_46 : zf 81 46 = some (.ireturn) := cf81_30.2.2.2.2.2.2.2.2.1
theorem f81_47 : zf 81 47 = some (.aload_n 0) := cf81_30.2.2.2.2.2.2.2.2.2.1
theorem f81_48 : zf 81 48 = some (.getfield 10) := cf81_30.2.2.2.2.2.2.2.2.2.2.1
theorem f81_51 : zf 81 51 = some (.getfield 125) := cf81_30.2.2.2.2.2.2.2.2.2.2.2.1
theorem f81_54 : zf 81 54 = some (.iload_n 1) := cf81_30.2.2.2.2.2.2.2.2.2.2.2.2.1
theorem f81_55 : zf 81 55 = some (.iload_n 2) := cf81_30.2.2.2.2.2.2.2.2.2.2.2.2.2.1
theorem f81_56 : zf 81 56 = some (.iastore) := cf81_30.2.2.2.2.2.2.2.2.2.2.2.2.2.2.1
theorem f81_57 : zf 81 57 = some (.aload_n 0) := cf81_30.2.2.2.2.2.2.2.2.2.2.2.2.2.2.2
theorem cf81_58 : zf 81 58 = some (.iconst 1) ∧ zf 81 59 = some (.invokevirtual 86) ∧ zf 81 62 = some (.ireturn) := by decide +kernel
theorem f81_58 : zf 81 58 = some (.iconst 1) := cf81_58.1
theorem f81_59 : zf 81 59 = some (.invokevirtual 86) := cf81_58.2.1
theorem f81_62 : zf 81 62 = some (.ireturn) := cf81_58.2.2
theorem cf82_0 : zf 82 0 = some (.aload_n 0) ∧ zf 82 1 = some (.getfield 10) ∧ zf 82 4 = some (.iload_n 1) ∧ zf 82 5 = some (.invokevirtual 89) ∧ zf 82 8 = some (.ifCond .eq 15) ∧ zf 82 11 = some (.aload_n 0) ∧ zf 82 12 = some (.getfield 10) ∧ zf 82 15 = some (.iload_n 2) ∧ zf 82 16 = some (.iload_n 1) ∧ zf 82 17 = some (.invokevirtual 121) ∧ zf 82 20 = some (.ifCond .ne 9) ∧ zf 82 23 = some (.aload_n 0) ∧ zf 82 24 = some (.iconst 1) ∧ zf 82 25 = some (.invokevirtual 78) ∧ zf 82 28 = some (.ireturn) ∧ zf 82 29 = some (.aload_n 0) := by decide +kernel
theorem f82_0 : zf 82 0 = some (.aload_n 0) := cf82_0.1
theorem f82_1 : zf 82 1 = some (.getfield 10) := cf82_0.2.1
theorem f82_4 : zf 82 4 = some (.iload_n 1) := cf82_0.2.2.1
theorem f82_5 : zf 82 5 = some (.invokevirtual 89) := cf82_0.2.2.2.1
theorem f82_8 : zf 82 8 = some (.ifCond .eq 15) := cf82_0.2.2.2.2.1
theorem f82_11 : zf 82 11 = some (.aload_n 0) := cf82_0.2.2.2.2.2.1
theorem f82_12 : zf 82 12 = some (.getfield 10) := cf82_0.2.2.2.2.2.2.1
theorem f82_15 : zf 82 15 = some (.iload_n 2) := cf82_0.2.2.2.2.2.2.2.1
theorem f82_16 : zf 82 16 = some (.iload_n 1) := cf82_0.2.2.2.2.2.2.2.2.1
theorem f82_17 : zf 82 17 = some (.invokevirtual 121) := cf82_0.2.2.2.2.2.2.2.2.2.1
theorem f82_20 : zf 82 20 = some (.ifCond .ne 9) := cf82_0.2.2.2.2.2.2.2.2.2.2.1
theorem f82_23 : zf 82 23 = some (.aload_n 0) := cf82_0.2.2.2.2.2.2.2.2.2.2.2.1
theorem f82_24 : zf 82 24 = some (.iconst 1) := cf82_0.2.2.2.2.2.2.2.2.2.2.2.2.1
theorem f82_25 : zf 82 25 = some (.invokevirtual 78) := cf82_0.2.2.2.2.2.2.2.2.2.2.2.2.2.1
theorem f82_28 : zf 82 28 = some (.ireturn) := cf82_0.2.2.2.2.2.2.2.2.2.2.2.2.2.2.1
theorem f82_29 : zf 82 29 = some (.aload_n 0) := cf82_0.2.2.2.2.2.2.2.2.2.2.2.2.2.2.2
theorem cf82_30 : zf 82 30 = some (.getfield 10) ∧ zf 82 33 = some (.getfield 128) ∧ zf 82 36 = some (.iload_n 1) ∧ zf 82 37 = some (.iload_n 2) ∧ zf 82 38 = some (.iastore) ∧ zf 82 39 = some (.aload_n 0) ∧ zf 82 40 = some (.iconst 1) ∧ zf 82 41 = some (.invokevirtual 86) ∧ zf 82 44 = some (.ireturn) := by decide +kernel
theorem f82_30 : zf 82 30 = some (.getfield 10) := cf82_30.1
theorem f82_33 : zf 82 33 = some (.getfield 128) := cf82_30.2.1
theorem f82_36 : zf 82 36 = some (.iload_n 1) := cf82_30.2.2.1
theorem f82_37 : zf 82 37 = some (.iload_n 2) := cf82_30.2.2.2.1
theorem f82_38 : zf 82 38 = some (.iastore) := cf82_30.2.2.2.2.1
theorem f82_39 : zf 82 39 = some (.aload_n 0) := cf82_30.2.2.2.2.2.1
theorem f82_40 : zf 82 40 = some (.iconst 1) := cf82_30.2.2.2.2.2.2.1
theorem f82_41 : zf 82 41 = some (.invokevirtual 86) := cf82_30.2.2.2.2.2.2.2.1
theorem f82_44 : zf 82 44 = some (.ireturn) := cf82_30.2.2.2.2.2.2.2.2
theorem cf83_0 : zf 83 0 = some (.iload_n 1) ∧ zf 83 1 = some (.iconst (-1)) ∧ zf 83 2 = some (.if_icmp .eq 14) ∧ zf 83 5 = some (.aload_n 0) ∧ zf 83 6 = some (.getfield 10) ∧ zf 83 9 = some (.iload_n 1) ∧ zf 83 10 = some (.invokevirtual 89) ∧ zf 83 13 = some (.ifCond .eq 7) ∧ zf 83 16 = some (.iconst 1) ∧ zf 83 17 = some (.goto 4) ∧ zf 83 20 = some (.iconst 0) ∧ zf 83 21 = some (.istore 4) ∧ zf 83 23 = some (.iload_n 1) ∧ zf 83 24 = some (.iconst (-1)) ∧ zf 83 25 = some (.if_icmp .ne 12) ∧ zf 83 28 = some (.iload_n 2) := by decide +kernel
theorem f83_0 : zf 83 0 = some (.iload_n 1) := cf83_0.1
theorem f83_1 : zf 83 1 = some (.iconst (-1)) := cf83_0.2.1
theorem f83_2 : zf 83 2 = some (.if_icmp .eq 14) := cf83_0.2.2.1
theorem f83_5 : zf 83 5 = some (.aload_n 0) := cf83_0.2.2.2.1
theorem f83_6 : zf 83 6 = some (.getfield 10) := cf83_0.2.2.2.2.1
theorem f83_9 : zf 83 9 = some (.iload_n 1) := cf83_0.2.2.2.2.2.1
theorem f83_10 : zf 83 10 = some (.invokevirtual 89) := cf83_0.2.2.2.2.2.2.1
theorem f83_13 : zf 83 13 = some (.ifCond .eq 7) := cf83_0.2.2.2.2.2.2.2.1
theorem f83_16 : zf 83 16 = some (.iconst 1) := cf83_0.2.2.2.2.2.2.2.2.1
theorem f83_17 : zf 83 17 = some (.goto 4) := cf83_0.2.2.2.2.2.2.2.2.2.1
theorem f83_20 : zf 83 20 = some (.iconst 0) := cf83_0.2.2.2.2.2.2.2.2.2.2.1
theorem f83_21 : zf 83 21 = some (.istore 4) := cf83_0.2.2.2.2.2.2.2.2.2.2.2.1
theorem f83_23 : zf 83 23 = some (.iload_n 1) := cf83_0.2.2.2.2.2.2.2.2.2.2.2.2.1
theorem f83_24 : zf 83 24 = some (.iconst (-1)) := cf83_0.2.2.2.2.2.2.2.2.2.2.2.2.2.1
theorem f83_25 : zf 83 25 = some (.if_icmp .ne 12) := cf83_0.2.2.2.2.2.2.2.2.2.2.2.2.2.2.1
theorem f83_28 : zf 83 28 = some (.iload_n 2) := cf83_0.2.2.2.2.2.2.2.2.2.2.2.2.2.2.2
theorem cf83_29 : zf 83 29 = some (.iconst (-1)) ∧ zf 83 30 = some (.if_icmp .ne 7) ∧ zf 83 33 = some (.iconst 1) ∧ zf 83 34 = some (.goto 4) ∧ zf 83 37 = some (.iconst 0) ∧ zf 83 38 = some (.istore 5) ∧ zf 83 40 = some (.iload 4) ∧ zf 83 42 = some (.ifCond .eq 30) ∧ zf 83 45 = some (.iload 5) ∧ zf 83 47 = some (.ifCond .ne 25) ∧ zf 83 50 = some (.aload_n 0) ∧ zf 83 51 = some (.getfield 10) ∧ zf 83 54 = some (.iload_n 2) ∧ zf 83 55 = some (.iload_n 1) ∧ zf 83 56 = some (.invokevirtual 121) ∧ zf 83 59 = some (.ifCond .eq 13) := by decide +kernel
theorem f83_29 : zf 83 29 = some (.iconst (-1)) := cf83_29.1
theorem f83_30 : zf 83 30 = some (.if_icmp .ne 7) := cf83_29.2.1
theorem f83_33 : zf 83 33 = some (.iconst 1) := cf83_29.2.2.1
theorem f83_34 : zf 83 34 = some (.goto 4) := cf83_29.2.2.2.1
theorem f83_37 : zf 83 37 = some (.iconst 0) := cf83_29.2.2.2.2.1
theorem f83_38 : zf 83 38 = some (.istore 5) := cf83_29.2.2.2.2.2.1
theorem f83_40 : zf 83 40 = some (.iload 4) := cf83_29.2.2.2.2.2.2.1
theorem f83_42 : zf 83 42 = some (.ifCond .eq 30) := cf83_29.2.2.2.2.2.2.2.1
theorem f83_45 : zf 83 45 = some (.iload 5) := cf83_29.2.2.2.2.2.2.2.2.1
theorem f83_47 : zf 83 47 = some (.ifCond .ne 25) := cf83_29.2.2.2.2.2.2.2.2.2.1
theorem f83_50 : zf 83 50 = some (.aload_n 0) := cf83_29.2.2.2.2.2.2.2.2.2.2.1
theorem f83_51 : zf 83 51 = some (.getfield 10) := cf83_29.2.2.2.2.2.2.2.2.2.2.2.1
theorem f83_54 : zf 83 54 = some (.iload_n 2) := cf83_29.2.2.2.2.2.2.2.2.2.2.2.2.1
theorem f83_55 : zf 83 55 = some (.iload_n 1) := cf83_29.2.2.2.2.2.2.2.2.2.2.2.2.2.1
theorem f83_56 : zf 83 56 = some (.invokevirtual 121) := cf83_29.2.2.2.2.2.2.2.2.2.2.2.2.2.2.1
theorem f83_59 : zf 83 59 = some (.ifCond .eq 13) := cf83_29.2.2.2.2.2.2.2.2.2.2.2.2.2.2.2
theorem cf83_62 : zf 83 62 = some (.iload_n 3) ∧ zf 83 63 = some (.iconst 1) ∧ zf 83 64 = some (.bipush 20) ∧ zf 83 66 = some (.invokestatic 74) ∧ zf 83 69 = some (.ifCond .ne 9) ∧ zf 83 72 = some (.aload_n 0) ∧ zf 83 73 = some (.iconst 1) ∧ zf 83 74 = some (.invokevirtual 78) ∧ zf 83 77 = some (.ireturn) ∧ zf 83 78 = some (.aload_n 0) ∧ zf 83 79 = some (.getfield 10) ∧ zf 83 82 = some (.iload_n 1) ∧ zf 83 83 = some (.iload_n 2) ∧ zf 83 84 = some (.invokevirtual 131) ∧ zf 83 87 = some (.istore 6) ∧ zf 83 89 = some (.iload 6) := by decide +kernel
theorem f83_62 : zf 83 62 = some (.iload_n 3) := cf83_62.1
theorem f83_63 : zf 83 63 = some (.iconst 1) := cf83_62.2.1
theorem f83_64 : zf 83 64 = some (.bipush 20) := cf83_62.2.2.1
theorem f83_66 : zf 83 66 = some (.invokestatic 74) := cf83_62.2.2.2.1
theorem f83_69 : zf 83 69 = some (.ifCond .ne 9) := cf83_62.2.2.2.2.1
theorem f83_72 : zf 83 72 = some (.aload_n 0) := cf83_62.2.2.2.2.2.1
theorem f83_73 : zf 83 73 = some (.iconst 1) := cf83_62.2.2.2.2.2.2.1
theorem f83_74 : zf 83 74 = some (.invokevirtual 78) := cf83_62.2.2.2.2.2.2.2.1
theorem f83_77 : zf 83 77 = some (.ireturn) := cf83_62.2.2.2.2.2.2.2.2.1
theorem f83_78 : zf 83 78 = some (.aload_n 0) := cf83_62.2.2.2.2.2.2.2.2.2.1
theorem f83_79 : zf 83 79 = some (.getfield 10) := cf83_62.2.2.2.2.2.2.2.2.2.2.1
theorem f83_82 : zf 83 82 = some (.iload_n 1) := cf83_62.2.2.2.2.2.2.2.2.2.2.2.1
theorem f83_83 : zf 83 83 = some (.iload_n 2) := cf83_62.2.2.2.2.2.2.2.2.2.2.2.2.1
theorem f83_84 : zf 83 84 = some (.invokevirtual 131) := cf83_62.2.2.2.2.2.2.2.2.2.2.2.2.2.1
theorem f83_87 : zf 83 87 = some (.istore 6) := cf83_62.2.2.2.2.2.2.2.2.2.2.2.2.2.2.1
theorem f83_89 : zf 83 89 = some (.iload 6) := cf83_62.2.2.2.2.2.2.2.2.2.2.2.2.2.2.2
theorem cf83_91 : zf 83 91 = some (.iconst (-1)) ∧ zf 83 92 = some (.if_icmp .ne 9) ∧ zf 83 95 = some (.aload_n 0) ∧ zf 83 96 = some (.iconst 2) ∧ zf 83 97 = some (.invokevirtual 78) ∧ zf 83 100 = some (.ireturn) ∧ zf 83 101 = some (.aload_n 0) ∧ zf 83 102 = some (.getfield 21) ∧ zf 83 105 = some (.getfield 134) ∧ zf 83 108 = some (.getfield 138) ∧ zf 83 111 = some (.iload 6) ∧ zf 83 113 = some (.iload_n 3) ∧ zf 83 114 = some (.iastore) ∧ zf 83 115 = some (.aload_n 0) ∧ zf 83 116 = some (.getfield 21) ∧ zf 83 119 = some (.getfield 134) := by decide +kernel
theorem f83_91 : zf 83 91 = some (.iconst (-1)) := cf83_91.1
theorem f83_92 : zf 83 92 = some (.if_icmp .ne 9) := cf83_91.2.1
theorem f83_95 : zf 83 95 = some (.aload_n 0) := cf83_91.2.2.1
theorem f83_96 : zf 83 96 = some (.iconst 2) := cf83_91.2.2.2.1
theorem f83_97 : zf 83 97 = some (.invokevirtual 78) := cf83_91.2.2.2.2.1
theorem f83_100 : zf 83 100 = some (.ireturn) := cf83_91.2.2.2.2.2.1
theorem f83_101 : zf 83 101 = some (.aload_n 0) := cf83_91.2.2.2.2.2.2.1
theorem f83_102 : zf 83 102 = some (.getfield 21) := cf83_91.2.2.2.2.2.2.2.1
theorem f83_105 : zf 83 105 = some (.getfield 134) := cf83_91.2.2.2.2.2.2.2.2.1
theorem f83_108 : zf 83 108 = some (.getfield 138) := cf83_91.2.2.2.2.2.2.2.2.2.1
theorem f83_111 : zf 83 111 = some (.iload 6) := cf83_91.2.2.2.2.2.2.2.2.2.2.1
theorem f83_113 : zf 83 113 = some (.iload_n 3) := cf83_91.2.2.2.2.2.2.2.2.2.2.2.1
theorem f83_114 : zf 83 114 = some (.iastore) := cf83_91.2.2.2.2.2.2.2.2.2.2.2.2.1
theorem f83_115 : zf 83 115 = some (.aload_n 0) := cf83_91.2.2.2.2.2.2.2.2.2.2.2.2.2.1
theorem f83_116 : zf 83 116 = some (.getfield 21) := cf83_91.2.2.2.2.2.2.2.2.2.2.2.2.2.2.1
theorem f83_119 : zf 83 119 = some (.getfield 134) := cf83_91.2.2.2.2.2.2.2.2.2.2.2.2.2.2.2
theorem cf83_122 : zf 83 122 = some (.iload 6) ∧ zf 83 124 = some (.iconst 1) ∧ zf 83 125 = some (.invokevirtual 143) ∧ zf 83 128 = some (.aload_n 0) ∧ zf 83 129 = some (.iload 6) ∧ zf 83 131 = some (.invokevirtual 86) ∧ zf 83 134 = some (.ireturn) := by decide +kernel
theorem f83_122 : zf 83 122 = some (.iload 6) := cf83_122.1
theorem f83_124 : zf 83 124 = some (.iconst 1) := cf83_122.2.1
theorem f83_125 : zf 83 125 = some (.invokevirtual 143) := cf83_122.2.2.1
theorem f83_128 : zf 83 128 = some (.aload_n 0) := cf83_122.2.2.2.1
theorem f83_129 : zf 83 129 = some (.iload 6) := cf83_122.2.2.2.2.1
theorem f83_131 : zf 83 131 = some (.invokevirtual 86) := cf83_122.2.2.2.2.2.1
theorem f83_134 : zf 83 134 = some (.ireturn) := cf83_122.2.2.2.2.2.2
theorem cf84_0 : zf 84 0 = some (.aload_n 0) ∧ zf 84 1 = some (.getfield 10) ∧ zf 84 4 = some (.iload_n 1) ∧ zf 84 5 = some (.invokevirtual 89) ∧ zf 84 8 = some (.ifCond .eq 14) ∧ zf 84 11 = some (.iload_n 2) ∧ zf 84 12 = some (.iconst 1) ∧ zf 84 13 = some (.sipush 1000) ∧ zf 84 16 = some (.invokestatic 74) ∧ zf 84 19 = some (.ifCond .ne 9) ∧ zf 84 22 = some (.aload_n 0) ∧ zf 84 23 = some (.iconst 1) ∧ zf 84 24 = some (.invokevirtual 78) ∧ zf 84 27 = some (.ireturn) ∧ zf 84 28 = some (.aload_n 0) ∧ zf 84 29 = some (.getfield 21) := by decide +kernel
theorem f84_0 : zf 84 0 = some (.aload_n 0) := cf84_0.1
theorem f84_1 : zf 84 1 = some (.getfield 10) := cf84_0.2.1
theorem f84_4 : zf 84 4 = some (.iload_n 1) := cf84_0.2.2.1
theorem f84_5 : zf 84 5 = some (.invokevirtual 89) := cf84_0.2.2.2.1
theorem f84_8 : zf 84 8 = some (.ifCond .eq 14) := cf84_0.2.2.2.2.1
theorem f84_11 : zf 84 11 = some (.iload_n 2) := cf84_0.2.2.2.2.2.1
theorem f84_12 : zf 84 12 = some (.iconst 1) := cf84_0.2.2.2.2.2.2.1
theorem f84_13 : zf 84 13 = some (.sipush 1000) := cf84_0.2.2.2.2.2.2.2.1
theorem f84_16 : zf 84 16 = some (.invokestatic 74) := cf84_0.2.2.2.2.2.2.2.2.1
theorem f84_19 : zf 84 19 = some (.ifCond .ne 9) := cf84_0.2.2.2.2.2.2.2.2.2.1
theorem f84_22 : zf 84 22 = some (.aload_n 0) := cf84_0.2.2.2.2.2.2.2.2.2.2.1
theorem f84_23 : zf 84 23 = some (.iconst 1) := cf84_0.2.2.2.2.2.2.2.2.2.2.2.1
theorem f84_24 : zf 84 24 = some (.invokevirtual 78) := cf84_0.2.2.2.2.2.2.2.2.2.2.2.2.1
theorem f84_27 : zf 84 27 = some (.ireturn) := cf84_0.2.2.2.2.2.2.2.2.2.2.2.2.2.1
theorem f84_28 : zf 84 28 = some (.aload_n 0) := cf84_0.2.2.2.2.2.2.2.2.2.2.2.2.2.2.1
theorem f84_29 : zf 84 29 = some (.getfield 21) := cf84_0.2.2.2.2.2.2.2.2.2.2.2.2.2.2.2
theorem cf84_32 : zf 84 32 = some (.getfield 134) ∧ zf 84 35 = some (.dup) ∧ zf 84 36 = some (.getfield 147) ∧ zf 84 39 = some (.iload_n 2) ∧ zf 84 40 = some (.i2l) ∧ zf 84 41 = some (.ladd) ∧ zf 84 42 = some (.putfield 147) ∧ zf 84 45 = some (.aload_n 0) ∧ zf 84 46 = some (.getfield 21) ∧ zf 84 49 = some (.iload_n 1) ∧ zf 84 50 = some (.iload_n 2) ∧ zf 84 51 = some (.i2l) ∧ zf 84 52 = some (.aload_n 0) ∧ zf 84 53 = some (.getfield 21) ∧ zf 84 56 = some (.getfield 134) ∧ zf 84 59 = some (.getfield 151) := by decide +kernel
theorem f84_32 : zf 84 32 = some (.getfield 134) := cf84_32.1
theorem f84_35 : zf 84 35 = some (.dup) := cf84_32.2.1
theorem f84_36 : zf 84 36 = some (.getfield 147) := cf84_32.2.2.1
theorem f84_39 : zf 84 39 = some (.iload_n 2) := cf84_32.2.2.2.1
theorem f84_40 : zf 84 40 = some (.i2l) := cf84_32.2.2.2.2.1
theorem f84_41 : zf 84 41 = some (.ladd) := cf84_32.2.2.2.2.2.1
theorem f84_42 : zf 84 42 = some (.putfield 147) := cf84_32.2.2.2.2.2.2.1
theorem f84_45 : zf 84 45 = some (.aload_n 0) := cf84_32.2.2.2.2.2.2.2.1
theorem f84_46 : zf 84 46 = some (.getfield 21) := cf84_32.2.2.2.2.2.2.2.2.1
theorem f84_49 : zf 84 49 = some (.iload_n 1) := cf84_32.2.2.2.2.2.2.2.2.2.1
theorem f84_50 : zf 84 50 = some (.iload_n 2) := cf84_32.2.2.2.2.2.2.2.2.2.2.1
theorem f84_51 : zf 84 51 = some (.i2l) := cf84_32.2.2.2.2.2.2.2.2.2.2.2.1
theorem f84_52 : zf 84 52 = some (.aload_n 0) := cf84_32.2.2.2.2.2.2.2.2.2.2.2.2.1
theorem f84_53 : zf 84 53 = some (.getfield 21) := cf84_32.2.2.2.2.2.2.2.2.2.2.2.2.2.1
theorem f84_56 : zf 84 56 = some (.getfield 134) := cf84_32.2.2.2.2.2.2.2.2.2.2.2.2.2.2.1
theorem f84_59 : zf 84 59 = some (.getfield 151) := cf84_32.2.2.2.2.2.2.2.2.2.2.2.2.2.2.2
theorem cf84_62 : zf 84 62 = some (.lmul) ∧ zf 84 63 = some (.invokevirtual 154) ∧ zf 84 66 = some (.aload_n 0) ∧ zf 84 67 = some (.iconst 1) ∧ zf 84 68 = some (.invokevirtual 86) ∧ zf 84 71 = some (.ireturn) := by decide +kernel
theorem f84_62 : zf 84 62 = some (.lmul) := cf84_62.1
theorem f84_63 : zf 84 63 = some (.invokevirtual 154) := cf84_62.2.1
theorem f84_66 : zf 84 66 = some (.aload_n 0) := cf84_62.2.2.1
theorem f84_67 : zf 84 67 = some (.iconst 1) := cf84_62.2.2.2.1
theorem f84_68 : zf 84 68 = some (.invokevirtual 86) := cf84_62.2.2.2.2.1
theorem f84_71 : zf 84 71 = some (.ireturn) := cf84_62.2.2.2.2.2
theorem cf85_0 : zf 85 0 = some (.aload_n 0) ∧ zf 85 1 = some (.getfield 10) ∧ zf 85 4 = some (.iload_n 1) ∧ zf 85 5 = some (.invokevirtual 109) ∧ zf 85 8 = some (.ifCond .ne 9) ∧ zf 85 11 = some (.aload_n 0) ∧ zf 85 12 = some (.iconst 1) ∧ zf 85 13 = some (.invokevirtual 78) ∧ zf 85 16 = some (.ireturn) ∧ zf 85 17 = some (.aload_n 0) ∧ zf 85 18 = some (.getfield 21) ∧ zf 85 21 = some (.getfield 134) ∧ zf 85 24 = some (.iload_n 1) ∧ zf 85 25 = some (.invokevirtual 158) ∧ zf 85 28 = some (.ifCond .ne 7) ∧ zf 85 31 = some (.iconst 1) := by decide +kernel
theorem f85_0 : zf 85 0 = some (.aload_n 0) := cf85_0.1
theorem f85_1 : zf 85 1 = some (.getfield 10) := cf85_0.2.1
theorem f85_4 : zf 85 4 = some (.iload_n 1) := cf85_0.2.2.1
theorem f85_5 : zf 85 5 = some (.invokevirtual 109) := cf85_0.2.2.2.1
theorem f85_8 : zf 85 8 = some (.ifCond .ne 9) := cf85_0.2.2.2.2.1
theorem f85_11 : zf 85 11 = some (.aload_n 0) := cf85_0.2.2.2.2.2.1
theorem f85_12 : zf 85 12 = some (.iconst 1) := cf85_0.2.2.2.2.2.2.1
theorem f85_13 : zf 85 13 = some (.invokevirtual 78) := cf85_0.2.2.2.2.2.2.2.1
theorem f85_16 : zf 85 16 = some (.ireturn) := cf85_0.2.2.2.2.2.2.2.2.1
theorem f85_17 : zf 85 17 = some (.aload_n 0) := cf85_0.2.2.2.2.2.2.2.2.2.1
theorem f85_18 : zf 85 18 = some (.getfield 21) := cf85_0.2.2.2.2.2.2.2.2.2.2.1
theorem f85_21 : zf 85 21 = some (.getfield 134) := cf85_0.2.2.2.2.2.2.2.2.2.2.2.1
theorem f85_24 : zf 85 24 = some (.iload_n 1) := cf85_0.2.2.2.2.2.2.2.2.2.2.2.2.1
theorem f85_25 : zf 85 25 = some (.invokevirtual 158) := cf85_0.2.2.2.2.2.2.2.2.2.2.2.2.2.1
theorem f85_28 : zf 85 28 = some (.ifCond .ne 7) := cf85_0.2.2.2.2.2.2.2.2.2.2.2.2.2.2.1
theorem f85_31 : zf 85 31 = some (.iconst 1) := cf85_0.2.2.2.2.2.2.2.2.2.2.2.2.2.2.2
theorem cf85_32 : zf 85 32 = some (.goto 4) ∧ zf 85 35 = some (.iconst 0) ∧ zf 85 36 = some (.istore_n 3) ∧ zf 85 37 = some (.aload_n 0) ∧ zf 85 38 = some (.getfield 21) ∧ zf 85 41 = some (.getfield 134) ∧ zf 85 44 = some (.iload_n 1) ∧ zf 85 45 = some (.iload_n 2) ∧ zf 85 46 = some (.ifCond .ne 7) ∧ zf 85 49 = some (.iconst 1) ∧ zf 85 50 = some (.goto 4) ∧ zf 85 53 = some (.iconst 0) ∧ zf 85 54 = some (.invokevirtual 143) ∧ zf 85 57 = some (.aload_n 0) ∧ zf 85 58 = some (.iload_n 3) ∧ zf 85 59 = some (.iload_n 2) := by decide +kernel
theorem f85_32 : zf 85 32 = some (.goto 4) := cf85_32.1
theorem f85_35 : zf 85 35 = some (.iconst 0) := cf85_32.2.1
theorem f85_36 : zf 85 36 = some (.istore_n 3) := cf85_32.2.2.1
theorem f85_37 : zf 85 37 = some (.aload_n 0) := cf85_32.2.2.2.1
theorem f85_38 : zf 85 38 = some (.getfield 21) := cf85_32.2.2.2.2.1
theorem f85_41 : zf 85 41 = some (.getfield 134) := cf85_32.2.2.2.2.2.1
theorem f85_44 : zf 85 44 = some (.iload_n 1) := cf85_32.2.2.2.2.2.2.1
theorem f85_45 : zf 85 45 = some (.iload_n 2) := cf85_32.2.2.2.2.2.2.2.1
theorem f85_46 : zf 85 46 = some (.ifCond .ne 7) := cf85_32.2.2.2.2.2.2.2.2.1
theorem f85_49 : zf 85 49 = some (.iconst 1) := cf85_32.2.2.2.2.2.2.2.2.2.1
theorem f85_50 : zf 85 50 = some (.goto 4) := cf85_32.2.2.2.2.2.2.2.2.2.2.1
theorem f85_53 : zf 85 53 = some (.iconst 0) := cf85_32.2.2.2.2.2.2.2.2.2.2.2.1
theorem f85_54 : zf 85 54 = some (.invokevirtual 143) := cf85_32.2.2.2.2.2.2.2.2.2.2.2.2.1
theorem f85_57 : zf 85 57 = some (.aload_n 0) := cf85_32.2.2.2.2.2.2.2.2.2.2.2.2.2.1
theorem f85_58 : zf 85 58 = some (.iload_n 3) := cf85_32.2.2.2.2.2.2.2.2.2.2.2.2.2.2.1
theorem f85_59 : zf 85 59 = some (.iload_n 2) := cf85_32.2.2.2.2.2.2.2.2.2.2.2.2.2.2.2
theorem cf85_60 : zf 85 60 = some (.if_icmp .eq 7) ∧ zf 85 63 = some (.iconst 1) ∧ zf 85 64 = some (.goto 4) ∧ zf 85 67 = some (.iconst 0) ∧ zf 85 68 = some (.invokevirtual 86) ∧ zf 85 71 = some (.ireturn) := by decide +kernel
theorem f85_60 : zf 85 60 = some (.if_icmp .eq 7) := cf85_60.1
theorem f85_63 : zf 85 63 = some (.iconst 1) := cf85_60.2.1
theorem f85_64 : zf 85 64 = some (.goto 4) := cf85_60.2.2.1
theorem f85_67 : zf 85 67 = some (.iconst 0) := cf85_60.2.2.2.1
theorem f85_68 : zf 85 68 = some (.invokevirtual 86) := cf85_60.2.2.2.2.1
theorem f85_71 : zf 85 71 = some (.ireturn) := cf85_60.2.2.2.2.2
theorem cf86_0 : zf 86 0 = some (.aload_n 0) ∧ zf 86 1 = some (.getfield 10) ∧ zf 86 4 = some (.iload_n 1) ∧ zf 86 5 = some (.invokevirtual 109) ∧ zf 86 8 = some (.ifCond .eq 13) ∧ zf 86 11 = some (.iload_n 2) ∧ zf 86 12 = some (.iconst 1) ∧ zf 86 13 = some (.bipush 20) ∧ zf 86 15 = some (.invokestatic 74) ∧ zf 86 18 = some (.ifCond .ne 9) ∧ zf 86 21 = some (.aload_n 0) ∧ zf 86 22 = some (.iconst 1) ∧ zf 86 23 = some (.invokevirtual 78) ∧ zf 86 26 = some (.ireturn) ∧ zf 86 27 = some (.aload_n 0) ∧ zf 86 28 = some (.getfield 21) := by decide +kernel
theorem f86_0 : zf 86 0 = some (.aload_n 0) := cf86_0.1
theorem f86_1 : zf 86 1 = some (.getfield 10) := cf86_0.2.1
theorem f86_4 : zf 86 4 = some (.iload_n 1) := cf86_0.2.2.1
theorem f86_5 : zf 86 5 = some (.invokevirtual 109) := cf86_0.2.2.2.1
theorem f86_8 : zf 86 8 = some (.ifCond .eq 13) := cf86_0.2.2.2.2.1
theorem f86_11 : zf 86 11 = some (.iload_n 2) := cf86_0.2.2.2.2.2.1
theorem f86_12 : zf 86 12 = some (.iconst 1) := cf86_0.2.2.2.2.2.2.1
theorem f86_13 : zf 86 13 = some (.bipush 20) := cf86_0.2.2.2.2.2.2.2.1
theorem f86_15 : zf 86 15 = some (.invokestatic 74) := cf86_0.2.2.2.2.2.2.2.2.1
theorem f86_18 : zf 86 18 = some (.ifCond .ne 9) := cf86_0.2.2.2.2.2.2.2.2.2.1
theorem f86_21 : zf 86 21 = some (.aload_n 0) := cf86_0.2.2.2.2.2.2.2.2.2.2.1
theorem f86_22 : zf 86 22 = some (.iconst 1) := cf86_0.2.2.2.2.2.2.2.2.2.2.2.1
theorem f86_23 : zf 86 23 = some (.invokevirtual 78) := cf86_0.2.2.2.2.2.2.2.2.2.2.2.2.1
theorem f86_26 : zf 86 26 = some (.ireturn) := cf86_0.2.2.2.2.2.2.2.2.2.2.2.2.2.1
theorem f86_27 : zf 86 27 = some (.aload_n 0) := cf86_0.2.2.2.2.2.2.2.2.2.2.2.2.2.2.1
theorem f86_28 : zf 86 28 = some (.getfield 21) := cf86_0.2.2.2.2.2.2.2.2.2.2.2.2.2.2.2
theorem cf86_31 : zf 86 31 = some (.getfield 134) ∧ zf 86 34 = some (.getfield 138) ∧ zf 86 37 = some (.iload_n 1) ∧ zf 86 38 = some (.iaload) ∧ zf 86 39 = some (.istore_n 3) ∧ zf 86 40 = some (.aload_n 0) ∧ zf 86 41 = some (.getfield 21) ∧ zf 86 44 = some (.getfield 134) ∧ zf 86 47 = some (.getfield 138) ∧ zf 86 50 = some (.iload_n 1) ∧ zf 86 51 = some (.iload_n 2) ∧ zf 86 52 = some (.iastore) ∧ zf 86 53 = some (.aload_n 0) ∧ zf 86 54 = some (.iload_n 3) ∧ zf 86 55 = some (.invokevirtual 86) ∧ zf 86 58 = some (.ireturn) := by decide +kernel
theorem f86_31 : zf 86 31 = some (.getfield 134) := cf86_31.1
theorem f86_34 : zf 86 34 = some (.getfield 138) := cf86_31.2.1
theorem f86_37 : zf 86 37 = some (.iload_n 1) := cf86_31.2.2.1
theorem f86_38 : zf 86 38 = some (.iaload) := cf86_31.2.2.2.1
theorem f86_39 : zf 86 39 = some (.istore_n 3) := cf86_31.2.2.2.2.1
theorem f86_40 : zf 86 40 = some (.aload_n 0) := cf86_31.2.2.2.2.2.1
theorem f86_41 : zf 86 41 = some (.getfield 21) := cf86_31.2.2.2.2.2.2.1
theorem f86_44 : zf 86 44 = some (.getfield 134) := cf86_31.2.2.2.2.2.2.2.1
theorem f86_47 : zf 86 47 = some (.getfield 138) := cf86_31.2.2.2.2.2.2.2.2.1
theorem f86_50 : zf 86 50 = some (.iload_n 1) := cf86_31.2.2.2.2.2.2.2.2.2.1
theorem f86_51 : zf 86 51 = some (.iload_n 2) := cf86_31.2.2.2.2.2.2.2.2.2.2.1
theorem f86_52 : zf 86 52 = some (.iastore) := cf86_31.2.2.2.2.2.2.2.2.2.2.2.1
theorem f86_53 : zf 86 53 = some (.aload_n 0) := cf86_31.2.2.2.2.2.2.2.2.2.2.2.2.1
theorem f86_54 : zf 86 54 = some (.iload_n 3) := cf86_31.2.2.2.2.2.2.2.2.2.2.2.2.2.1
theorem f86_55 : zf 86 55 = some (.invokevirtual 86) := cf86_31.2.2.2.2.2.2.2.2.2.2.2.2.2.2.1
theorem f86_58 : zf 86 58 = some (.ireturn) := cf86_31.2.2.2.2.2.2.2.2.2.2.2.2.2.2.2
theorem cf87_0 : zf 87 0 = some (.iload_n 1) ∧ zf 87 1 = some (.sipush 10000) ∧ zf 87 4 = some (.if_icmp .gt 14) ∧ zf 87 7 = some (.aload_n 0) ∧ zf 87 8 = some (.getfield 21) ∧ zf 87 11 = some (.iload_n 1) ∧ zf 87 12 = some (.invokevirtual 161) ∧ zf 87 15 = some (.ifCond .eq 9) ∧ zf 87 18 = some (.aload_n 0) ∧ zf 87 19 = some (.iconst 1) ∧ zf 87 20 = some (.invokevirtual 78) ∧ zf 87 23 = some (.ireturn) ∧ zf 87 24 = some (.aload_n 0) ∧ zf 87 25 = some (.getfield 31) ∧ zf 87 28 = some (.getfield 164) ∧ zf 87 31 = some (.istore_n 2) := by decide +kernel
theorem f87_0 : zf 87 0 = some (.iload_n 1) := cf87_0.1
theorem f87_1 : zf 87 1 = some (.sipush 10000) := cf87_0.2.1
theorem f87_4 : zf 87 4 = some (.if_icmp .gt 14) := cf87_0.2.2.1
theorem f87_7 : zf 87 7 = some (.aload_n 0) := cf87_0.2.2.2.1
theorem f87_8 : zf 87 8 = some (.getfield 21) := cf87_0.2.2.2.2.1
theorem f87_11 : zf 87 11 = some (.iload_n 1) := cf87_0.2.2.2.2.2.1
theorem f87_12 : zf 87 12 = some (.invokevirtual 161) := cf87_0.2.2.2.2.2.2.1
theorem f87_15 : zf 87 15 = some (.ifCond .eq 9) := cf87_0.2.2.2.2.2.2.2.1
theorem f87_18 : zf 87 18 = some (.aload_n 0) := cf87_0.2.2.2.2.2.2.2.2.1
theorem f87_19 : zf 87 19 = some (.iconst 1) := cf87_0.2.2.2.2.2.2.2.2.2.1
theorem f87_20 : zf 87 20 = some (.invokevirtual 78) := cf87_0.2.2.2.2.2.2.2.2.2.2.1
theorem f87_23 : zf 87 23 = some (.ireturn) := cf87_0.2.2.2.2.2.2.2.2.2.2.2.1
theorem f87_24 : zf 87 24 = some (.aload_n 0) := cf87_0.2.2.2.2.2.2.2.2.2.2.2.2.1
theorem f87_25 : zf 87 25 = some (.getfield 31) := cf87_0.2.2.2.2.2.2.2.2.2.2.2.2.2.1
theorem f87_28 : zf 87 28 = some (.getfield 164) := cf87_0.2.2.2.2.2.2.2.2.2.2.2.2.2.2.1
theorem f87_31 : zf 87 31 = some (.istore_n 2) := cf87_0.2.2.2.2.2.2.2.2.2.2.2.2.2.2.2
theorem cf87_32 : zf 87 32 = some (.iconst 0) ∧ zf 87 33 = some (.istore_n 3) ∧ zf 87 34 = some (.iload_n 3) ∧ zf 87 35 = some (.sipush 150) ∧ zf 87 38 = some (.if_icmp .gt 93) ∧ zf 87 41 = some (.aload_n 0) ∧ zf 87 42 = some (.getfield 21) ∧ zf 87 45 = some (.invokevirtual 167) ∧ zf 87 48 = some (.aload_n 0) ∧ zf 87 49 = some (.getfield 21) ∧ zf 87 52 = some (.invokevirtual 170) ∧ zf 87 55 = some (.ifCond .ne 14) ∧ zf 87 58 = some (.aload_n 0) ∧ zf 87 59 = some (.getfield 21) ∧ zf 87 62 = some (.iload_n 1) ∧ zf 87 63 = some (.invokevirtual 174) := by decide +kernel
theorem f87_32 : zf 87 32 = some (.iconst 0) := cf87_32.1
theorem f87_33 : zf 87 33 = some (.istore_n 3) := cf87_32.2.1
theorem f87_34 : zf 87 34 = some (.iload_n 3) := cf87_32.2.2.1
theorem f87_35 : zf 87 35 = some (.sipush 150) := cf87_32.2.2.2.1
theorem f87_38 : zf 87 38 = some (.if_icmp .gt 93) := cf87_32.2.2.2.2.1
theorem f87_41 : zf 87 41 = some (.aload_n 0) := cf87_32.2.2.2.2.2.1
theorem f87_42 : zf 87 42 = some (.getfield 21) := cf87_32.2.2.2.2.2.2.1
theorem f87_45 : zf 87 45 = some (.invokevirtual 167) := cf87_32.2.2.2.2.2.2.2.1
theorem f87_48 : zf 87 48 = some (.aload_n 0) := cf87_32.2.2.2.2.2.2.2.2.1
theorem f87_49 : zf 87 49 = some (.getfield 21) := cf87_32.2.2.2.2.2.2.2.2.2.1
theorem f87_52 : zf 87 52 = some (.invokevirtual 170) := cf87_32.2.2.2.2.2.2.2.2.2.2.1
theorem f87_55 : zf 87 55 = some (.ifCond .ne 14) := cf87_32.2.2.2.2.2.2.2.2.2.2.2.1
theorem f87_58 : zf 87 58 = some (.aload_n 0) := cf87_32.2.2.2.2.2.2.2.2.2.2.2.2.1
theorem f87_59 : zf 87 59 = some (.getfield 21) := cf87_32.2.2.2.2.2.2.2.2.2.2.2.2.2.1
theorem f87_62 : zf 87 62 = some (.iload_n 1) := cf87_32.2.2.2.2.2.2.2.2.2.2.2.2.2.2.1
theorem f87_63 : zf 87 63 = some (.invokevirtual 174) := cf87_32.2.2.2.2.2.2.2.2.2.2.2.2.2.2.2
theorem cf87_66 : zf 87 66 = some (.ifCond .eq 25) ∧ zf 87 69 = some (.aload_n 0) ∧ zf 87 70 = some (.getfield 21) ∧ zf 87 73 = some (.iload_n 1) ∧ zf 87 74 = some (.invokevirtual 177) ∧ zf 87 77 = some (.aload_n 0) ∧ zf 87 78 = some (.aload_n 0) ∧ zf 87 79 = some (.getfield 31) ∧ zf 87 82 = some (.getfield 164) ∧ zf 87 85 = some (.iload_n 2) ∧ zf 87 86 = some (.isub) ∧ zf 87 87 = some (.invokevirtual 181) ∧ zf 87 90 = some (.ireturn) ∧ zf 87 91 = some (.iload_n 3) ∧ zf 87 92 = some (.sipush 150) ∧ zf 87 95 = some (.if_icmp .eq 13) := by decide +kernel
theorem f87_66 : zf 87 66 = some (.ifCond .eq 25) := cf87_66.1
theorem f87_69 : zf 87 69 = some (.aload_n 0) := cf87_66.2.1
theorem f87_70 : zf 87 70 = some (.getfield 21) := cf87_66.2.2.1
theorem f87_73 : zf 87 73 = some (.iload_n 1) := cf87_66.2.2.2.1
theorem f87_74 : zf 87 74 = some (.invokevirtual 177) := cf87_66.2.2.2.2.1
theorem f87_77 : zf 87 77 = some (.aload_n 0) := cf87_66.2.2.2.2.2.1
theorem f87_78 : zf 87 78 = some (.aload_n 0) := cf87_66.2.2.2.2.2.2.1
theorem f87_79 : zf 87 79 = some (.getfield 31) := cf87_66.2.2.2.2.2.2.2.1
theorem f87_82 : zf 87 82 = some (.getfield 164) := cf87_66.2.2.2.2.2.2.2.2.1
theorem f87_85 : zf 87 85 = some (.iload_n 2) := cf87_66.2.2.2.2.2.2.2.2.2.1
theorem f87_86 : zf 87 86 = some (.isub) := cf87_66.2.2.2.2.2.2.2.2.2.2.1
theorem f87_87 : zf 87 87 = some (.invokevirtual 181) := cf87_66.2.2.2.2.2.2.2.2.2.2.2.1
theorem f87_90 : zf 87 90 = some (.ireturn) := cf87_66.2.2.2.2.2.2.2.2.2.2.2.2.1
theorem f87_91 : zf 87 91 = some (.iload_n 3) := cf87_66.2.2.2.2.2.2.2.2.2.2.2.2.2.1
theorem f87_92 : zf 87 92 = some (.sipush 150) := cf87_66.2.2.2.2.2.2.2.2.2.2.2.2.2.2.1
theorem f87_95 : zf 87 95 = some (.if_icmp .eq 13) := cf87_66.2.2.2.2.2.2.2.2.2.2.2.2.2.2.2
theorem cf87_98 : zf 87 98 = some (.aload_n 0) ∧ zf 87 99 = some (.getfield 21) ∧ zf 87 102 = some (.invokevirtual 184) ∧ zf 87 105 = some (.ifCond .ne 9) ∧ zf 87 108 = some (.aload_n 0) ∧ zf 87 109 = some (.iconst 4) ∧ zf 87 110 = some (.invokevirtual 78) ∧ zf 87 113 = some (.ireturn) ∧ zf 87 114 = some (.aload_n 0) ∧ zf 87 115 = some (.getfield 31) ∧ zf 87 118 = some (.aload_n 0) ∧ zf 87 119 = some (.getfield 21) ∧ zf 87 122 = some (.invokevirtual 187) ∧ zf 87 125 = some (.iinc 3 1) ∧ zf 87 128 = some (.goto (-94)) ∧ zf 87 131 = some (.aload_n 0) := by decide +kernel
theorem f87_98 : zf 87 98 = some (.aload_n 0) := cf87_98.1
theorem f87_99 : zf 87 99 = some (.getfield 21) := cf87_98.2.1
theorem f87_102 : zf 87 102 = some (.invokevirtual 184) := cf87_98.2.2.1
theorem f87_105 : zf 87 105 = some (.ifCond .ne 9) := cf87_98.2.2.2.1
theorem f87_108 : zf 87 108 = some (.aload_n 0) := cf87_98.2.2.2.2.1
theorem f87_109 : zf 87 109 = some (.iconst 4) := cf87_98.2.2.2.2.2.1
theorem f87_110 : zf 87 110 = some (.invokevirtual 78) := cf87_98.2.2.2.2.2.2.1
theorem f87_113 : zf 87 113 = some (.ireturn) := cf87_98.2.2.2.2.2.2.2.1
theorem f87_114 : zf 87 114 = some (.aload_n 0) := cf87_98.2.2.2.2.2.2.2.2.1
theorem f87_115 : zf 87 115 = some (.getfield 31) := cf87_98.2.2.2.2.2.2.2.2.2.1
theorem f87_118 : zf 87 118 = some (.aload_n 0) := cf87_98.2.2.2.2.2.2.2.2.2.2.1
theorem f87_119 : zf 87 119 = some (.getfield 21) := cf87_98.2.2.2.2.2.2.2.2.2.2.2.1
theorem f87_122 : zf 87 122 = some (.invokevirtual 187) := cf87_98.2.2.2.2.2.2.2.2.2.2.2.2.1
theorem f87_125 : zf 87 125 = some (.iinc 3 1) := cf87_98.2.2.2.2.2.2.2.2.2.2.2.2.2.1
theorem f87_128 : zf 87 128 = some (.goto (-94)) := cf87_98.2.2.2.2.2.2.2.2.2.2.2.2.2.2.1
theorem f87_131 : zf 87 131 = some (.aload_n 0) := cf87_98.2.2.2.2.2.2.2.2.2.2.2.2.2.2.2
theorem cf87_132 : zf 87 132 = some (.iconst 4) ∧ zf 87 133 = some (.invokevirtual 78) ∧ zf 87 136 = some (.ireturn) := by decide +kernel
theorem f87_132 : zf 87 132 = some (.iconst 4) := cf87_132.1
theorem f87_133 : zf 87 133 = some (.invokevirtual 78) := cf87_132.2.1
theorem f87_136 : zf 87 136 = some (.ireturn) := cf87_132.2.2
theorem cf88_0 : zf 88 0 = some (.iload_n 1) ∧ zf 88 1 = some (.tableswitch 89 0 2 #[27, 52, 77]) ∧ zf 88 28 = some (.aload_n 0) ∧ zf 88 29 = some (.getfield 21) ∧ zf 88 32 = some (.getfield 134) ∧ zf 88 35 = some (.getfield 191) ∧ zf 88 38 = some (.aload_n 0) ∧ zf 88 39 = some (.getfield 21) ∧ zf 88 42 = some (.getfield 134) ∧ zf 88 45 = some (.getfield 151) ∧ zf 88 48 = some (.invokestatic 194) ∧ zf 88 51 = some (.l2i) ∧ zf 88 52 = some (.ireturn) ∧ zf 88 53 = some (.aload_n 0) ∧ zf 88 54 = some (.getfield 21) ∧ zf 88 57 = some (.getfield 134) := by decide +kernel
theorem f88_0 : zf 88 0 = some (.iload_n 1) := cf88_0.1
theorem f88_1 : zf 88 1 = some (.tableswitch 89 0 2 #[27, 52, 77]) := cf88_0.2.1
theorem f88_28 : zf 88 28 = some (.aload_n 0) := cf88_0.2.2.1
theorem f88_29 : zf 88 29 = some (.getfield 21) := cf88_0.2.2.2.1
theorem f88_32 : zf 88 32 = some (.getfield 134) := cf88_0.2.2.2.2.1
theorem f88_35 : zf 88 35 = some (.getfield 191) := cf88_0.2.2.2.2.2.1
theorem f88_38 : zf 88 38 = some (.aload_n 0) := cf88_0.2.2.2.2.2.2.1
theorem f88_39 : zf 88 39 = some (.getfield 21) := cf88_0.2.2.2.2.2.2.2.1
theorem f88_42 : zf 88 42 = some (.getfield 134) := cf88_0.2.2.2.2.2.2.2.2.1
theorem f88_45 : zf 88 45 = some (.getfield 151) := cf88_0.2.2.2.2.2.2.2.2.2.1
theorem f88_48 : zf 88 48 = some (.invokestatic 194) := cf88_0.2.2.2.2.2.2.2.2.2.2.1
theorem f88_51 : zf 88 51 = some (.l2i) := cf88_0.2.2.2.2.2.2.2.2.2.2.2.1
theorem f88_52 : zf 88 52 = some (.ireturn) := cf88_0.2.2.2.2.2.2.2.2.2.2.2.2.1
theorem f88_53 : zf 88 53 = some (.aload_n 0) := cf88_0.2.2.2.2.2.2.2.2.2.2.2.2.2.1
theorem f88_54 : zf 88 54 = some (.getfield 21) := cf88_0.2.2.2.2.2.2.2.2.2.2.2.2.2.2.1
theorem f88_57 : zf 88 57 = some (.getfield 134) := cf88_0.2.2.2.2.2.2.2.2.2.2.2.2.2.2.2
theorem cf88_60 : zf 88 60 = some (.getfield 191) ∧ zf 88 63 = some (.aload_n 0) ∧ zf 88 64 = some (.getfield 21) ∧ zf 88 67 = some (.getfield 134) ∧ zf 88 70 = some (.getfield 151) ∧ zf 88 73 = some (.invokestatic 198) ∧ zf 88 76 = some (.l2i) ∧ zf 88 77 = some (.ireturn) ∧ zf 88 78 = some (.aload_n 0) ∧ zf 88 79 = some (.getfield 21) ∧ zf 88 82 = some (.getfield 134) ∧ zf 88 85 = some (.getfield 151) ∧ zf 88 88 = some (.l2i) ∧ zf 88 89 = some (.ireturn) ∧ zf 88 90 = some (.iconst (-1)) ∧ zf 88 91 = some (.ireturn) := by decide +kernel
theorem f88_60 : zf 88 60 = some (.getfield 191) := cf88_60.1
theorem f88_63 : zf 88 63 = some (.aload_n 0) := cf88_60.2.1
theorem f88_64 : zf 88 64 = some (.getfield 21) := cf88_60.2.2.1
theorem f88_67 : zf 88 67 = some (.getfield 134) := cf88_60.2.2.2.1
theorem f88_70 : zf 88 70 = some (.getfield 151) := cf88_60.2.2.2.2.1
theorem f88_73 : zf 88 73 = some (.invokestatic 198) := cf88_60.2.2.2.2.2.1
theorem f88_76 : zf 88 76 = some (.l2i) := cf88_60.2.2.2.2.2.2.1
theorem f88_77 : zf 88 77 = some (.ireturn) := cf88_60.2.2.2.2.2.2.2.1
theorem f88_78 : zf 88 78 = some (.aload_n 0) := cf88_60.2.2.2.2.2.2.2.2.1
theorem f88_79 : zf 88 79 = some (.getfield 21) := cf88_60.2.2.2.2.2.2.2.2.2.1
theorem f88_82 : zf 88 82 = some (.getfield 134) := cf88_60.2.2.2.2.2.2.2.2.2.2.1
theorem f88_85 : zf 88 85 = some (.getfield 151) := cf88_60.2.2.2.2.2.2.2.2.2.2.2.1
theorem f88_88 : zf 88 88 = some (.l2i) := cf88_60.2.2.2.2.2.2.2.2.2.2.2.2.1
theorem f88_89 : zf 88 89 = some (.ireturn) := cf88_60.2.2.2.2.2.2.2.2.2.2.2.2.2.1
theorem f88_90 : zf 88 90 = some (.iconst (-1)) := cf88_60.2.2.2.2.2.2.2.2.2.2.2.2.2.2.1
theorem f88_91 : zf 88 91 = some (.ireturn) := cf88_60.2.2.2.2.2.2.2.2.2.2.2.2.2.2.2
theorem cf89_0 : zf 89 0 = some (.iload_n 1) ∧ zf 89 1 = some (.iconst 0) ∧ zf 89 2 = some (.iconst 1) ∧ zf 89 3 = some (.invokestatic 74) ∧ zf 89 6 = some (.ifCond .ne 7) ∧ zf 89 9 = some (.ldc2_w 201) ∧ zf 89 12 = some (.lreturn) ∧ zf 89 13 = some (.aload_n 0) ∧ zf 89 14 = some (.getfield 21) ∧ zf 89 17 = some (.invokevirtual 167) ∧ zf 89 20 = some (.aload_n 0) ∧ zf 89 21 = some (.getfield 21) ∧ zf 89 24 = some (.invokevirtual 170) ∧ zf 89 27 = some (.ifCond .eq 7) ∧ zf 89 30 = some (.ldc2_w 201) ∧ zf 89 33 = some (.lreturn) := by decide +kernel
theorem f89_0 : zf 89 0 = some (.iload_n 1) := cf89_0.1
theorem f89_1 : zf 89 1 = some (.iconst 0) := cf89_0.2.1
theorem f89_2 : zf 89 2 = some (.iconst 1) := cf89_0.2.2.1
theorem f89_3 : zf 89 3 = some (.invokestatic 74) := cf89_0.2.2.2.1
theorem f89_6 : zf 89 6 = some (.ifCond .ne 7) := cf89_0.2.2.2.2.1
theorem f89_9 : zf 89 9 = some (.ldc2_w 201) := cf89_0.2.2.2.2.2.1
theorem f89_12 : zf 89 12 = some (.lreturn) := cf89_0.2.2.2.2.2.2.1
theorem f89_13 : zf 89 13 = some (.aload_n 0) := cf89_0.2.2.2.2.2.2.2.1
theorem f89_14 : zf 89 14 = some (.getfield 21) := cf89_0.2.2.2.2.2.2.2.2.1
theorem f89_17 : zf 89 17 = some (.invokevirtual 167) := cf89_0.2.2.2.2.2.2.2.2.2.1
theorem f89_20 : zf 89 20 = some (.aload_n 0) := cf89_0.2.2.2.2.2.2.2.2.2.2.1
theorem f89_21 : zf 89 21 = some (.getfield 21) := cf89_0.2.2.2.2.2.2.2.2.2.2.2.1
theorem f89_24 : zf 89 24 = some (.invokevirtual 170) := cf89_0.2.2.2.2.2.2.2.2.2.2.2.2.1
theorem f89_27 : zf 89 27 = some (.ifCond .eq 7) := cf89_0.2.2.2.2.2.2.2.2.2.2.2.2.2.1
theorem f89_30 : zf 89 30 = some (.ldc2_w 201) := cf89_0.2.2.2.2.2.2.2.2.2.2.2.2.2.2.1
theorem f89_33 : zf 89 33 = some (.lreturn) := cf89_0.2.2.2.2.2.2.2.2.2.2.2.2.2.2.2
theorem cf89_34 : zf 89 34 = some (.aload_n 0) ∧ zf 89 35 = some (.getfield 21) ∧ zf 89 38 = some (.invokevirtual 203) ∧ zf 89 41 = some (.aload_n 0) ∧ zf 89 42 = some (.getfield 21) ∧ zf 89 45 = some (.invokevirtual 207) ∧ zf 89 48 = some (.iload_n 1) ∧ zf 89 49 = some (.invokestatic 210) ∧ zf 89 52 = some (.lreturn) := by decide +kernel
theorem f89_34 : zf 89 34 = some (.aload_n 0) := cf89_34.1
theorem f89_35 : zf 89 35 = some (.getfield 21) := cf89_34.2.1
theorem f89_38 : zf 89 38 = some (.invokevirtual 203) := cf89_34.2.2.1
theorem f89_41 : zf 89 41 = some (.aload_n 0) := cf89_34.2.2.2.1
theorem f89_42 : zf 89 42 = some (.getfield 21) := cf89_34.2.2.2.2.1
theorem f89_45 : zf 89 45 = some (.invokevirtual 207) := cf89_34.2.2.2.2.2.1
theorem f89_48 : zf 89 48 = some (.iload_n 1) := cf89_34.2.2.2.2.2.2.1
theorem f89_49 : zf 89 49 = some (.invokestatic 210) := cf89_34.2.2.2.2.2.2.2.1
theorem f89_52 : zf 89 52 = some (.lreturn) := cf89_34.2.2.2.2.2.2.2.2
theorem cf90_0 : zf 90 0 = some (.aload_n 0) ∧ zf 90 1 = some (.getfield 10) ∧ zf 90 4 = some (.iload_n 1) ∧ zf 90 5 = some (.invokevirtual 89) ∧ zf 90 8 = some (.ifCond .eq 12) ∧ zf 90 11 = some (.iload_n 2) ∧ zf 90 12 = some (.iconst 0) ∧ zf 90 13 = some (.iconst 1) ∧ zf 90 14 = some (.invokestatic 74) ∧ zf 90 17 = some (.ifCond .ne 5) ∧ zf 90 20 = some (.iconst (-1)) ∧ zf 90 21 = some (.ireturn) ∧ zf 90 22 = some (.aload_n 0) ∧ zf 90 23 = some (.getfield 21) ∧ zf 90 26 = some (.getfield 134) ∧ zf 90 29 = some (.getfield 214) := by decide +kernel
theorem f90_0 : zf 90 0 = some (.aload_n 0) := cf90_0.1
theorem f90_1 : zf 90 1 = some (.getfield 10) := cf90_0.2.1
theorem f90_4 : zf 90 4 = some (.iload_n 1) := cf90_0.2.2.1
theorem f90_5 : zf 90 5 = some (.invokevirtual 89) := cf90_0.2.2.2.1
theorem f90_8 : zf 90 8 = some (.ifCond .eq 12) := cf90_0.2.2.2.2.1
theorem f90_11 : zf 90 11 = some (.iload_n 2) := cf90_0.2.2.2.2.2.1
theorem f90_12 : zf 90 12 = some (.iconst 0) := cf90_0.2.2.2.2.2.2.1
theorem f90_13 : zf 90 13 = some (.iconst 1) := cf90_0.2.2.2.2.2.2.2.1
theorem f90_14 : zf 90 14 = some (.invokestatic 74) := cf90_0.2.2.2.2.2.2.2.2.1
theorem f90_17 : zf 90 17 = some (.ifCond .ne 5) := cf90_0.2.2.2.2.2.2.2.2.2.1
theorem f90_20 : zf 90 20 = some (.iconst (-1)) := cf90_0.2.2.2.2.2.2.2.2.2.2.1
theorem f90_21 : zf 90 21 = some (.ireturn) := cf90_0.2.2.2.2.2.2.2.2.2.2.2.1
theorem f90_22 : zf 90 22 = some (.aload_n 0) := cf90_0.2.2.2.2.2.2.2.2.2.2.2.2.1
theorem f90_23 : zf 90 23 = some (.getfield 21) := cf90_0.2.2.2.2.2.2.2.2.2.2.2.2.2.1
theorem f90_26 : zf 90 26 = some (.getfield 134) := cf90_0.2.2.2.2.2.2.2.2.2.2.2.2.2.2.1
theorem f90_29 : zf 90 29 = some (.getfield 214) := cf90_0.2.2.2.2.2.2.2.2.2.2.2.2.2.2.2
theorem cf90_32 : zf 90 32 = some (.iload_n 1) ∧ zf 90 33 = some (.laload) ∧ zf 90 34 = some (.aload_n 0) ∧ zf 90 35 = some (.getfield 21) ∧ zf 90 38 = some (.getfield 134) ∧ zf 90 41 = some (.getfield 151) ∧ zf 90 44 = some (.iload_n 2) ∧ zf 90 45 = some (.invokestatic 210) ∧ zf 90 48 = some (.l2i) ∧ zf 90 49 = some (.ireturn) := by decide +kernel
theorem f90_32 : zf 90 32 = some (.iload_n 1) := cf90_32.1
theorem f90_33 : zf 90 33 = some (.laload) := cf90_32.2.1
theorem f90_34 : zf 90 34 = some (.aload_n 0) := cf90_32.2.2.1
theorem f90_35 : zf 90 35 = some (.getfield 21) := cf90_32.2.2.2.1
theorem f90_38 : zf 90 38 = some (.getfield 134) := cf90_32.2.2.2.2.1
theorem f90_41 : zf 90 41 = some (.getfield 151) := cf90_32.2.2.2.2.2.1
theorem f90_44 : zf 90 44 = some (.iload_n 2) := cf90_32.2.2.2.2.2.2.1
theorem f90_45 : zf 90 45 = some (.invokestatic 210) := cf90_32.2.2.2.2.2.2.2.1
theorem f90_48 : zf 90 48 = some (.l2i) := cf90_32.2.2.2.2.2.2.2.2.1
theorem f90_49 : zf 90 49 = some (.ireturn) := cf90_32.2.2.2.2.2.2.2.2.2
theorem cf91_0 : zf 91 0 = some (.aload_n 0) ∧ zf 91 1 = some (.getfield 10) ∧ zf 91 4 = some (.iload_n 1) ∧ zf 91 5 = some (.invokevirtual 89) ∧ zf 91 8 = some (.ifCond .ne 6) ∧ zf 91 11 = some (.ldc 218) ∧ zf 91 13 = some (.ireturn) ∧ zf 91 14 = some (.aload_n 0) ∧ zf 91 15 = some (.getfield 21) ∧ zf 91 18 = some (.invokevirtual 219) ∧ zf 91 21 = some (.aload_n 0) ∧ zf 91 22 = some (.getfield 21) ∧ zf 91 25 = some (.getfield 222) ∧ zf 91 28 = some (.iload_n 1) ∧ zf 91 29 = some (.iaload) ∧ zf 91 30 = some (.ireturn) := by decide +kernel
theorem f91_0 : zf 91 0 = some (.aload_n 0) := cf91_0.1
theorem f91_1 : zf 91 1 = some (.getfield 10) := cf91_0.2.1
theorem f91_4 : zf 91 4 = some (.iload_n 1) := cf91_0.2.2.1
theorem f91_5 : zf 91 5 = some (.invokevirtual 89) := cf91_0.2.2.2.1
theorem f91_8 : zf 91 8 = some (.ifCond .ne 6) := cf91_0.2.2.2.2.1
theorem f91_11 : zf 91 11 = some (.ldc 218) := cf91_0.2.2.2.2.2.1
theorem f91_13 : zf 91 13 = some (.ireturn) := cf91_0.2.2.2.2.2.2.1
theorem f91_14 : zf 91 14 = some (.aload_n 0) := cf91_0.2.2.2.2.2.2.2.1
theorem f91_15 : zf 91 15 = some (.getfield 21) := cf91_0.2.2.2.2.2.2.2.2.1
theorem f91_18 : zf 91 18 = some (.invokevirtual 219) := cf91_0.2.2.2.2.2.2.2.2.2.1
theorem f91_21 : zf 91 21 = some (.aload_n 0) := cf91_0.2.2.2.2.2.2.2.2.2.2.1
theorem f91_22 : zf 91 22 = some (.getfield 21) := cf91_0.2.2.2.2.2.2.2.2.2.2.2.1
theorem f91_25 : zf 91 25 = some (.getfield 222) := cf91_0.2.2.2.2.2.2.2.2.2.2.2.2.1
theorem f91_28 : zf 91 28 = some (.iload_n 1) := cf91_0.2.2.2.2.2.2.2.2.2.2.2.2.2.1
theorem f91_29 : zf 91 29 = some (.iaload) := cf91_0.2.2.2.2.2.2.2.2.2.2.2.2.2.2.1
theorem f91_30 : zf 91 30 = some (.ireturn) := cf91_0.2.2.2.2.2.2.2.2.2.2.2.2.2.2.2
theorem cf92_0 : zf 92 0 = some (.aload_n 0) ∧ zf 92 1 = some (.getfield 10) ∧ zf 92 4 = some (.iload_n 1) ∧ zf 92 5 = some (.invokevirtual 109) ∧ zf 92 8 = some (.ifCond .ne 5) ∧ zf 92 11 = some (.iconst (-1)) ∧ zf 92 12 = some (.ireturn) ∧ zf 92 13 = some (.aload_n 0) ∧ zf 92 14 = some (.getfield 21) ∧ zf 92 17 = some (.invokevirtual 219) ∧ zf 92 20 = some (.aload_n 0) ∧ zf 92 21 = some (.getfield 21) ∧ zf 92 24 = some (.getfield 225) ∧ zf 92 27 = some (.iload_n 1) ∧ zf 92 28 = some (.iaload) ∧ zf 92 29 = some (.ireturn) := by decide +kernel
theorem f92_0 : zf 92 0 = some (.aload_n 0) := cf92_0.1
theorem f92_1 : zf 92 1 = some (.getfield 10) := cf92_0.2.1
theorem f92_4 : zf 92 4 = some (.iload_n 1) := cf92_0.2.2.1
theorem f92_5 : zf 92 5 = some (.invokevirtual 109) := cf92_0.2.2.2.1
theorem f92_8 : zf 92 8 = some (.ifCond .ne 5) := cf92_0.2.2.2.2.1
theorem f92_11 : zf 92 11 = some (.iconst (-1)) := cf92_0.2.2.2.2.2.1
theorem f92_12 : zf 92 12 = some (.ireturn) := cf92_0.2.2.2.2.2.2.1
theorem f92_13 : zf 92 13 = some (.aload_n 0) := cf92_0.2.2.2.2.2.2.2.1
theorem f92_14 : zf 92 14 = some (.getfield 21) := cf92_0.2.2.2.2.2.2.2.2.1
theorem f92_17 : zf 92 17 = some (.invokevirtual 219) := cf92_0.2.2.2.2.2.2.2.2.2.1
theorem f92_20 : zf 92 20 = some (.aload_n 0) := cf92_0.2.2.2.2.2.2.2.2.2.2.1
theorem f92_21 : zf 92 21 = some (.getfield 21) := cf92_0.2.2.2.2.2.2.2.2.2.2.2.1
theorem f92_24 : zf 92 24 = some (.getfield 225) := cf92_0.2.2.2.2.2.2.2.2.2.2.2.2.1
theorem f92_27 : zf 92 27 = some (.iload_n 1) := cf92_0.2.2.2.2.2.2.2.2.2.2.2.2.2.1
theorem f92_28 : zf 92 28 = some (.iaload) := cf92_0.2.2.2.2.2.2.2.2.2.2.2.2.2.2.1
theorem f92_29 : zf 92 29 = some (.ireturn) := cf92_0.2.2.2.2.2.2.2.2.2.2.2.2.2.2.2
theorem cf93_0 : zf 93 0 = some (.aload_n 0) ∧ zf 93 1 = some (.getfield 10) ∧ zf 93 4 = some (.iload_n 1) ∧ zf 93 5 = some (.invokevirtual 89) ∧ zf 93 8 = some (.ifCond .ne 5) ∧ zf 93 11 = some (.iconst (-1)) ∧ zf 93 12 = some (.ireturn) ∧ zf 93 13 = some (.aload_n 0) ∧ zf 93 14 = some (.getfield 21) ∧ zf 93 17 = some (.invokevirtual 219) ∧ zf 93 20 = some (.aload_n 0) ∧ zf 93 21 = some (.getfield 21) ∧ zf 93 24 = some (.getfield 228) ∧ zf 93 27 = some (.iload_n 1) ∧ zf 93 28 = some (.iaload) ∧ zf 93 29 = some (.ireturn) := by decide +kernel
theorem f93_0 : zf 93 0 = some (.aload_n 0) := cf93_0.1
theorem f93_1 : zf 93 1 = some (.getfield 10) := cf93_0.2.1
theorem f93_4 : zf 93 4 = some (.iload_n 1) := cf93_0.2.2.1
theorem f93_5 : zf 93 5 = some (.invokevirtual 89) := cf93_0.2.2.2.1
theorem f93_8 : zf 93 8 = some (.ifCond .ne 5) := cf93_0.2.2.2.2.1
theorem f93_11 : zf 93 11 = some (.iconst (-1)) := cf93_0.2.2.2.2.2.1
theorem f93_12 : zf 93 12 = some (.ireturn) := cf93_0.2.2.2.2.2.2.1
theorem f93_13 : zf 93 13 = some (.aload_n 0) := cf93_0.2.2.2.2.2.2.2.1
theorem f93_14 : zf 93 14 = some (.getfield 21) := cf93_0.2.2.2.2.2.2.2.2.1
theorem f93_17 : zf 93 17 = some (.invokevirtual 219) := cf93_0.2.2.2.2.2.2.2.2.2.1
theorem f93_20 : zf 93 20 = some (.aload_n 0) := cf93_0.2.2.2.2.2.2.2.2.2.2.1
theorem f93_21 : zf 93 21 = some (.getfield 21) := cf93_0.2.2.2.2.2.2.2.2.2.2.2.1
theorem f93_24 : zf 93 24 = some (.getfield 228) := cf93_0.2.2.2.2.2.2.2.2.2.2.2.2.1
theorem f93_27 : zf 93 27 = some (.iload_n 1) := cf93_0.2.2.2.2.2.2.2.2.2.2.2.2.2.1
theorem f93_28 : zf 93 28 = some (.iaload) := cf93_0.2.2.2.2.2.2.2.2.2.2.2.2.2.2.1
theorem f93_29 : zf 93 29 = some (.ireturn) := cf93_0.2.2.2.2.2.2.2.2.2.2.2.2.2.2.2
theorem cf94_0 : zf 94 0 = some (.aload_n 0) ∧ zf 94 1 = some (.getfield 10) ∧ zf 94 4 = some (.iload_n 1) ∧ zf 94 5 = some (.invokevirtual 89) ∧ zf 94 8 = some (.ifCond .ne 5) ∧ zf 94 11 = some (.iconst (-1)) ∧ zf 94 12 = some (.ireturn) ∧ zf 94 13 = some (.iload_n 2) ∧ zf 94 14 = some (.lookupswitch 86 #[(7, 26), (8, 57)]) ∧ zf 94 40 = some (.aload_n 0) ∧ zf 94 41 = some (.getfield 10) ∧ zf 94 44 = some (.iload_n 1) ∧ zf 94 45 = some (.invokevirtual 112) ∧ zf 94 48 = some (.iconst 1) ∧ zf 94 49 = some (.if_icmp .ne 20) ∧ zf 94 52 = some (.aload_n 0) := by decide +kernel
theorem f94_0 : zf 94 0 = some (.aload_n 0) := cf94_0.1
theorem f94_1 : zf 94 1 = some (.getfield 10) := cf94_0.2.1
theorem f94_4 : zf 94 4 = some (.iload_n 1) := cf94_0.2.2.1
theorem f94_5 : zf 94 5 = some (.invokevirtual 89) := cf94_0.2.2.2.1
theorem f94_8 : zf 94 8 = some (.ifCond .ne 5) := cf94_0.2.2.2.2.1
theorem f94_11 : zf 94 11 = some (.iconst (-1)) := cf94_0.2.2.2.2.2.1
theorem f94_12 : zf 94 12 = some (.ireturn) := cf94_0.2.2.2.2.2.2.1
theorem f94_13 : zf 94 13 = some (.iload_n 2) := cf94_0.2.2.2.2.2.2.2.1
theorem f94_14 : zf 94 14 = some (.lookupswitch 86 #[(7, 26), (8, 57)]) := cf94_0.2.2.2.2.2.2.2.2.1
theorem f94_40 : zf 94 40 = some (.aload_n 0) := cf94_0.2.2.2.2.2.2.2.2.2.1
theorem f94_41 : zf 94 41 = some (.getfield 10) := cf94_0.2.2.2.2.2.2.2.2.2.2.1
theorem f94_44 : zf 94 44 = some (.iload_n 1) := cf94_0.2.2.2.2.2.2.2.2.2.2.2.1
theorem f94_45 : zf 94 45 = some (.invokevirtual 112) := cf94_0.2.2.2.2.2.2.2.2.2.2.2.2.1
theorem f94_48 : zf 94 48 = some (.iconst 1) := cf94_0.2.2.2.2.2.2.2.2.2.2.2.2.2.1
theorem f94_49 : zf 94 49 = some (.if_icmp .ne 20) := cf94_0.2.2.2.2.2.2.2.2.2.2.2.2.2.2.1
theorem f94_52 : zf 94 52 = some (.aload_n 0) := cf94_0.2.2.2.2.2.2.2.2.2.2.2.2.2.2.2
theorem cf94_53 : zf 94 53 = some (.getfield 21) ∧ zf 94 56 = some (.getfield 134) ∧ zf 94 59 = some (.iload_n 1) ∧ zf 94 60 = some (.invokevirtual 231) ∧ zf 94 63 = some (.invokestatic 234) ∧ zf 94 66 = some (.goto 4) ∧ zf 94 69 = some (.iconst (-1)) ∧ zf 94 70 = some (.ireturn) ∧ zf 94 71 = some (.aload_n 0) ∧ zf 94 72 = some (.getfield 10) ∧ zf 94 75 = some (.iload_n 1) ∧ zf 94 76 = some (.invokevirtual 112) ∧ zf 94 79 = some (.iconst 4) ∧ zf 94 80 = some (.if_icmp .ne 18) ∧ zf 94 83 = some (.aload_n 0) ∧ zf 94 84 = some (.getfield 21) := by decide +kernel
theorem f94_53 : zf 94 53 = some (.getfield 21) := cf94_53.1
theorem f94_56 : zf 94 56 = some (.getfield 134) := cf94_53.2.1
theorem f94_59 : zf 94 59 = some (.iload_n 1) := cf94_53.2.2.1
theorem f94_60 : zf 94 60 = some (.invokevirtual 231) := cf94_53.2.2.2.1
theorem f94_63 : zf 94 63 = some (.invokestatic 234) := cf94_53.2.2.2.2.1
theorem f94_66 : zf 94 66 = some (.goto 4) := cf94_53.2.2.2.2.2.1
theorem f94_69 : zf 94 69 = some (.iconst (-1)) := cf94_53.2.2.2.2.2.2.1
theorem f94_70 : zf 94 70 = some (.ireturn) := cf94_53.2.2.2.2.2.2.2.1
theorem f94_71 : zf 94 71 = some (.aload_n 0) := cf94_53.2.2.2.2.2.2.2.2.1
theorem f94_72 : zf 94 72 = some (.getfield 10) := cf94_53.2.2.2.2.2.2.2.2.2.1
theorem f94_75 : zf 94 75 = some (.iload_n 1) := cf94_53.2.2.2.2.2.2.2.2.2.2.1
theorem f94_76 : zf 94 76 = some (.invokevirtual 112) := cf94_53.2.2.2.2.2.2.2.2.2.2.2.1
theorem f94_79 : zf 94 79 = some (.iconst 4) := cf94_53.2.2.2.2.2.2.2.2.2.2.2.2.1
theorem f94_80 : zf 94 80 = some (.if_icmp .ne 18) := cf94_53.2.2.2.2.2.2.2.2.2.2.2.2.2.1
theorem f94_83 : zf 94 83 = some (.aload_n 0) := cf94_53.2.2.2.2.2.2.2.2.2.2.2.2.2.2.1
theorem f94_84 : zf 94 84 = some (.getfield 21) := cf94_53.2.2.2.2.2.2.2.2.2.2.2.2.2.2.2
theorem cf94_87 : zf 94 87 = some (.getfield 134) ∧ zf 94 90 = some (.getfield 238) ∧ zf 94 93 = some (.iload_n 1) ∧ zf 94 94 = some (.iaload) ∧ zf 94 95 = some (.goto 4) ∧ zf 94 98 = some (.iconst (-1)) ∧ zf 94 99 = some (.ireturn) ∧ zf 94 100 = some (.aload_n 0) ∧ zf 94 101 = some (.getfield 10) ∧ zf 94 104 = some (.iload_n 1) ∧ zf 94 105 = some (.iload_n 2) ∧ zf 94 106 = some (.invokevirtual 241) ∧ zf 94 109 = some (.ireturn) := by decide +kernel
theorem f94_87 : zf 94 87 = some (.getfield 134) := cf94_87.1
theorem f94_90 : zf 94 90 = some (.getfield 238) := cf94_87.2.1
theorem f94_93 : zf 94 93 = some (.iload_n 1) := cf94_87.2.2.1
theorem f94_94 : zf 94 94 = some (.iaload) := cf94_87.2.2.2.1
theorem f94_95 : zf 94 95 = some (.goto 4) := cf94_87.2.2.2.2.1
theorem f94_98 : zf 94 98 = some (.iconst (-1)) := cf94_87.2.2.2.2.2.1
theorem f94_99 : zf 94 99 = some (.ireturn) := cf94_87.2.2.2.2.2.2.1
theorem f94_100 : zf 94 100 = some (.aload_n 0) := cf94_87.2.2.2.2.2.2.2.1
theorem f94_101 : zf 94 101 = some (.getfield 10) := cf94_87.2.2.2.2.2.2.2.2.1
theorem f94_104 : zf 94 104 = some (.iload_n 1) := cf94_87.2.2.2.2.2.2.2.2.2.1
theorem f94_105 : zf 94 105 = some (.iload_n 2) := cf94_87.2.2.2.2.2.2.2.2.2.2.1
theorem f94_106 : zf 94 106 = some (.invokevirtual 241) := cf94_87.2.2.2.2.2.2.2.2.2.2.2.1
theorem f94_109 : zf 94 109 = some (.ireturn) := cf94_87.2.2.2.2.2.2.2.2.2.2.2.2
theorem cf95_0 : zf 95 0 = some (.aload_n 0) ∧ zf 95 1 = some (.getfield 10) ∧ zf 95 4 = some (.iload_n 1) ∧ zf 95 5 = some (.invokevirtual 109) ∧ zf 95 8 = some (.ifCond .ne 6) ∧ zf 95 11 = some (.bipush (-2)) ∧ zf 95 13 = some (.ireturn) ∧ zf 95 14 = some (.iload_n 2) ∧ zf 95 15 = some (.tableswitch 93 0 4 #[33, 43, 53, 66, 81]) ∧ zf 95 48 = some (.aload_n 0) ∧ zf 95 49 = some (.getfield 10) ∧ zf 95 52 = some (.getfield 115) ∧ zf 95 55 = some (.iload_n 1) ∧ zf 95 56 = some (.iaload) ∧ zf 95 57 = some (.ireturn) ∧ zf 95 58 = some (.aload_n 0) := by decide +kernel
theorem f95_0 : zf 95 0 = some (.aload_n 0) := cf95_0.1
theorem f95_1 : zf 95 1 = some (.getfield 10) := cf95_0.2.1
theorem f95_4 : zf 95 4 = some (.iload_n 1) := cf95_0.2.2.1
theorem f95_5 : zf 95 5 = some (.invokevirtual 109) := cf95_0.2.2.2.1
theorem f95_8 : zf 95 8 = some (.ifCond .ne 6) := cf95_0.2.2.2.2.1
theorem f95_11 : zf 95 11 = some (.bipush (-2)) := cf95_0.2.2.2.2.2.1
theorem f95_13 : zf 95 13 = some (.ireturn) := cf95_0.2.2.2.2.2.2.1
theorem f95_14 : zf 95 14 = some (.iload_n 2) := cf95_0.2.2.2.2.2.2.2.1
theorem f95_15 : zf 95 15 = some (.tableswitch 93 0 4 #[33, 43, 53, 66, 81]) := cf95_0.2.2.2.2.2.2.2.2.1
theorem f95_48 : zf 95 48 = some (.aload_n 0) := cf95_0.2.2.2.2.2.2.2.2.2.1
theorem f95_49 : zf 95 49 = some (.getfield 10) := cf95_0.2.2.2.2.2.2.2.2.2.2.1
theorem f95_52 : zf 95 52 = some (.getfield 115) := cf95_0.2.2.2.2.2.2.2.2.2.2.2.1
theorem f95_55 : zf 95 55 = some (.iload_n 1) := cf95_0.2.2.2.2.2.2.2.2.2.2.2.2.1
theorem f95_56 : zf 95 56 = some (.iaload) := cf95_0.2.2.2.2.2.2.2.2.2.2.2.2.2.1
theorem f95_57 : zf 95 57 = some (.ireturn) := cf95_0.2.2.2.2.2.2.2.2.2.2.2.2.2.2.1
theorem f95_58 : zf 95 58 = some (.aload_n 0) := cf95_0.2.2.2.2.2.2.2.2.2.2.2.2.2.2.2
theorem cf95_59 : zf 95 59 = some (.getfield 10) ∧ zf 95 62 = some (.getfield 244) ∧ zf 95 65 = some (.iload_n 1) ∧ zf 95 66 = some (.iaload) ∧ zf 95 67 = some (.ireturn) ∧ zf 95 68 = some (.aload_n 0) ∧ zf 95 69 = some (.getfield 21) ∧ zf 95 72 = some (.getfield 134) ∧ zf 95 75 = some (.getfield 138) ∧ zf 95 78 = some (.iload_n 1) ∧ zf 95 79 = some (.iaload) ∧ zf 95 80 = some (.ireturn) ∧ zf 95 81 = some (.aload_n 0) ∧ zf 95 82 = some (.getfield 21) ∧ zf 95 85 = some (.getfield 134) ∧ zf 95 88 = some (.iload_n 1) := by decide +kernel
theorem f95_59 : zf 95 59 = some (.getfield 10) := cf95_59.1
theorem f95_62 : zf 95 62 = some (.getfield 244) := cf95_59.2.1
theorem f95_65 : zf 95 65 = some (.iload_n 1) := cf95_59.2.2.1
theorem f95_66 : zf 95 66 = some (.iaload) := cf95_59.2.2.2.1
theorem f95_67 : zf 95 67 = some (.ireturn) := cf95_59.2.2.2.2.1
theorem f95_68 : zf 95 68 = some (.aload_n 0) := cf95_59.2.2.2.2.2.1
theorem f95_69 : zf 95 69 = some (.getfield 21) := cf95_59.2.2.2.2.2.2.1
theorem f95_72 : zf 95 72 = some (.getfield 134) := cf95_59.2.2.2.2.2.2.2.1
theorem f95_75 : zf 95 75 = some (.getfield 138) := cf95_59.2.2.2.2.2.2.2.2.1
theorem f95_78 : zf 95 78 = some (.iload_n 1) := cf95_59.2.2.2.2.2.2.2.2.2.1
theorem f95_79 : zf 95 79 = some (.iaload) := cf95_59.2.2.2.2.2.2.2.2.2.2.1
theorem f95_80 : zf 95 80 = some (.ireturn) := cf95_59.2.2.2.2.2.2.2.2.2.2.2.1
theorem f95_81 : zf 95 81 = some (.aload_n 0) := cf95_59.2.2.2.2.2.2.2.2.2.2.2.2.1
theorem f95_82 : zf 95 82 = some (.getfield 21) := cf95_59.2.2.2.2.2.2.2.2.2.2.2.2.2.1
theorem f95_85 : zf 95 85 = some (.getfield 134) := cf95_59.2.2.2.2.2.2.2.2.2.2.2.2.2.2.1
theorem f95_88 : zf 95 88 = some (.iload_n 1) := cf95_59.2.2.2.2.2.2.2.2.2.2.2.2.2.2.2
theorem cf95_89 : zf 95 89 = some (.invokevirtual 158) ∧ zf 95 92 = some (.invokestatic 234) ∧ zf 95 95 = some (.ireturn) ∧ zf 95 96 = some (.aload_n 0) ∧ zf 95 97 = some (.getfield 21) ∧ zf 95 100 = some (.iload_n 1) ∧ zf 95 101 = some (.invokevirtual 247) ∧ zf 95 104 = some (.invokestatic 234) ∧ zf 95 107 = some (.ireturn) ∧ zf 95 108 = some (.bipush (-2)) ∧ zf 95 110 = some (.ireturn) := by decide +kernel
theorem f95_89 : zf 95 89 = some (.invokevirtual 158) := cf95_89.1
theorem f95_92 : zf 95 92 = some (.invokestatic 234) := cf95_89.2.1
theorem f95_95 : zf 95 95 = some (.ireturn) := cf95_89.2.2.1
theorem f95_96 : zf 95 96 = some (.aload_n 0) := cf95_89.2.2.2.1
theorem f95_97 : zf 95 97 = some (.getfield 21) := cf95_89.2.2.2.2.1
theorem f95_100 : zf 95 100 = some (.iload_n 1) := cf95_89.2.2.2.2.2.1
theorem f95_101 : zf 95 101 = some (.invokevirtual 247) := cf95_89.2.2.2.2.2.2.1
theorem f95_104 : zf 95 104 = some (.invokestatic 234) := cf95_89.2.2.2.2.2.2.2.1
theorem f95_107 : zf 95 107 = some (.ireturn) := cf95_89.2.2.2.2.2.2.2.2.1
theorem f95_108 : zf 95 108 = some (.bipush (-2)) := cf95_89.2.2.2.2.2.2.2.2.2.1
theorem f95_110 : zf 95 110 = some (.ireturn) := cf95_89.2.2.2.2.2.2.2.2.2.2
theorem cf96_0 : zf 96 0 = some (.iload_n 1) ∧ zf 96 1 = some (.tableswitch 63 0 3 #[31, 39, 47, 55]) ∧ zf 96 32 = some (.aload_n 0) ∧ zf 96 33 = some (.getfield 10) ∧ zf 96 36 = some (.getfield 250) ∧ zf 96 39 = some (.ireturn) ∧ zf 96 40 = some (.aload_n 0) ∧ zf 96 41 = some (.getfield 10) ∧ zf 96 44 = some (.getfield 253) ∧ zf 96 47 = some (.ireturn) ∧ zf 96 48 = some (.aload_n 0) ∧ zf 96 49 = some (.getfield 31) ∧ zf 96 52 = some (.getfield 164) ∧ zf 96 55 = some (.ireturn) ∧ zf 96 56 = some (.aload_n 0) ∧ zf 96 57 = some (.getfield 45) := by decide +kernel
theorem f96_0 : zf 96 0 = some (.iload_n 1) := cf96_0.1
theorem f96_1 : zf 96 1 = some (.tableswitch 63 0 3 #[31, 39, 47, 55]) := cf96_0.2.1
theorem f96_32 : zf 96 32 = some (.aload_n 0) := cf96_0.2.2.1
theorem f96_33 : zf 96 33 = some (.getfield 10) := cf96_0.2.2.2.1
theorem f96_36 : zf 96 36 = some (.getfield 250) := cf96_0.2.2.2.2.1
theorem f96_39 : zf 96 39 = some (.ireturn) := cf96_0.2.2.2.2.2.1
theorem f96_40 : zf 96 40 = some (.aload_n 0) := cf96_0.2.2.2.2.2.2.1
theorem f96_41 : zf 96 41 = some (.getfield 10) := cf96_0.2.2.2.2.2.2.2.1
theorem f96_44 : zf 96 44 = some (.getfield 253) := cf96_0.2.2.2.2.2.2.2.2.1
theorem f96_47 : zf 96 47 = some (.ireturn) := cf96_0.2.2.2.2.2.2.2.2.2.1
theorem f96_48 : zf 96 48 = some (.aload_n 0) := cf96_0.2.2.2.2.2.2.2.2.2.2.1
theorem f96_49 : zf 96 49 = some (.getfield 31) := cf96_0.2.2.2.2.2.2.2.2.2.2.2.1
theorem f96_52 : zf 96 52 = some (.getfield 164) := cf96_0.2.2.2.2.2.2.2.2.2.2.2.2.1
theorem f96_55 : zf 96 55 = some (.ireturn) := cf96_0.2.2.2.2.2.2.2.2.2.2.2.2.2.1
theorem f96_56 : zf 96 56 = some (.aload_n 0) := cf96_0.2.2.2.2.2.2.2.2.2.2.2.2.2.2.1
theorem f96_57 : zf 96 57 = some (.getfield 45) := cf96_0.2.2.2.2.2.2.2.2.2.2.2.2.2.2.2
theorem cf96_60 : zf 96 60 = some (.getfield 256) ∧ zf 96 63 = some (.ireturn) ∧ zf 96 64 = some (.iconst (-1)) ∧ zf 96 65 = some (.ireturn) := by decide +kernel
theorem f96_60 : zf 96 60 = some (.getfield 256) := cf96_60.1
theorem f96_63 : zf 96 63 = some (.ireturn) := cf96_60.2.1
theorem f96_64 : zf 96 64 = some (.iconst (-1)) := cf96_60.2.2.1
theorem f96_65 : zf 96 65 = some (.ireturn) := cf96_60.2.2.2
theorem cf97_0 : zf 97 0 = some (.aload_n 0) ∧ zf 97 1 = some (.getfield 31) ∧ zf 97 4 = some (.iload_n 1) ∧ zf 97 5 = some (.iload_n 2) ∧ zf 97 6 = some (.invokevirtual 259) ∧ zf 97 9 = some (.ireturn) := by decide +kernel
theorem f97_0 : zf 97 0 = some (.aload_n 0) := cf97_0.1
theorem f97_1 : zf 97 1 = some (.getfield 31) := cf97_0.2.1
theorem f97_4 : zf 97 4 = some (.iload_n 1) := cf97_0.2.2.1
theorem f97_5 : zf 97 5 = some (.iload_n 2) := cf97_0.2.2.2.1
theorem f97_6 : zf 97 6 = some (.invokevirtual 259) := cf97_0.2.2.2.2.1
theorem f97_9 : zf 97 9 = some (.ireturn) := cf97_0.2.2.2.2.2
theorem cf98_0 : zf 98 0 = some (.aload_n 0) ∧ zf 98 1 = some (.getfield 21) ∧ zf 98 4 = some (.getfield 134) ∧ zf 98 7 = some (.astore_n 2) ∧ zf 98 8 = some (.iload_n 1) ∧ zf 98 9 = some (.tableswitch 94 0 6 #[43, 43, 56, 61, 61, 76, 76]) ∧ zf 98 52 = some (.aload_n 2) ∧ zf 98 53 = some (.getfield 260) ∧ zf 98 56 = some (.aload_n 2) ∧ zf 98 57 = some (.getfield 151) ∧ zf 98 60 = some (.iload_n 1) ∧ zf 98 61 = some (.invokestatic 210) ∧ zf 98 64 = some (.lreturn) ∧ zf 98 65 = some (.aload_n 2) ∧ zf 98 66 = some (.getfield 147) ∧ zf 98 69 = some (.lreturn) := by decide +kernel
theorem f98_0 : zf 98 0 = some (.aload_n 0) := cf98_0.1
theorem f98_1 : zf 98 1 = some (.getfield 21) := cf98_0.2.1
theorem f98_4 : zf 98 4 = some (.getfield 134) := cf98_0.2.2.1
theorem f98_7 : zf 98 7 = some (.astore_n 2) := cf98_0.2.2.2.1
theorem f98_8 : zf 98 8 = some (.iload_n 1) := cf98_0.2.2.2.2.1
theorem f98_9 : zf 98 9 = some (.tableswitch 94 0 6 #[43, 43, 56, 61, 61, 76, 76]) := cf98_0.2.2.2.2.2.1
theorem f98_52 : zf 98 52 = some (.aload_n 2) := cf98_0.2.2.2.2.2.2.1
theorem f98_53 : zf 98 53 = some (.getfield 260) := cf98_0.2.2.2.2.2.2.2.1
theorem f98_56 : zf 98 56 = some (.aload_n 2) := cf98_0.2.2.2.2.2.2.2.2.1
theorem f98_57 : zf 98 57 = some (.getfield 151) := cf98_0.2.2.2.2.2.2.2.2.2.1
theorem f98_60 : zf 98 60 = some (.iload_n 1) := cf98_0.2.2.2.2.2.2.2.2.2.2.1
theorem f98_61 : zf 98 61 = some (.invokestatic 210) := cf98_0.2.2.2.2.2.2.2.2.2.2.2.1
theorem f98_64 : zf 98 64 = some (.lreturn) := cf98_0.2.2.2.2.2.2.2.2.2.2.2.2.1
theorem f98_65 : zf 98 65 = some (.aload_n 2) := cf98_0.2.2.2.2.2.2.2.2.2.2.2.2.2.1
theorem f98_66 : zf 98 66 = some (.getfield 147) := cf98_0.2.2.2.2.2.2.2.2.2.2.2.2.2.2.1
theorem f98_69 : zf 98 69 = some (.lreturn) := cf98_0.2.2.2.2.2.2.2.2.2.2.2.2.2.2.2
theorem cf98_70 : zf 98 70 = some (.aload_n 2) ∧ zf 98 71 = some (.getfield 263) ∧ zf 98 74 = some (.aload_n 2) ∧ zf 98 75 = some (.getfield 151) ∧ zf 98 78 = some (.iload_n 1) ∧ zf 98 79 = some (.iconst 3) ∧ zf 98 80 = some (.isub) ∧ zf 98 81 = some (.invokestatic 210) ∧ zf 98 84 = some (.lreturn) ∧ zf 98 85 = some (.aload_n 0) ∧ zf 98 86 = some (.getfield 21) ∧ zf 98 89 = some (.invokevirtual 266) ∧ zf 98 92 = some (.aload_n 2) ∧ zf 98 93 = some (.getfield 151) ∧ zf 98 96 = some (.iload_n 1) ∧ zf 98 97 = some (.iconst 5) := by decide +kernel
theorem f98_70 : zf 98 70 = some (.aload_n 2) := cf98_70.1
theorem f98_71 : zf 98 71 = some (.getfield 263) := cf98_70.2.1
theorem f98_74 : zf 98 74 = some (.aload_n 2) := cf98_70.2.2.1
theorem f98_75 : zf 98 75 = some (.getfield 151) := cf98_70.2.2.2.1
theorem f98_78 : zf 98 78 = some (.iload_n 1) := cf98_70.2.2.2.2.1
theorem f98_79 : zf 98 79 = some (.iconst 3) := cf98_70.2.2.2.2.2.1
theorem f98_80 : zf 98 80 = some (.isub) := cf98_70.2.2.2.2.2.2.1
theorem f98_81 : zf 98 81 = some (.invokestatic 210) := cf98_70.2.2.2.2.2.2.2.1
theorem f98_84 : zf 98 84 = some (.lreturn) := cf98_70.2.2.2.2.2.2.2.2.1
theorem f98_85 : zf 98 85 = some (.aload_n 0) := cf98_70.2.2.2.2.2.2.2.2.2.1
theorem f98_86 : zf 98 86 = some (.getfield 21) := cf98_70.2.2.2.2.2.2.2.2.2.2.1
theorem f98_89 : zf 98 89 = some (.invokevirtual 266) := cf98_70.2.2.2.2.2.2.2.2.2.2.2.1
theorem f98_92 : zf 98 92 = some (.aload_n 2) := cf98_70.2.2.2.2.2.2.2.2.2.2.2.2.1
theorem f98_93 : zf 98 93 = some (.getfield 151) := cf98_70.2.2.2.2.2.2.2.2.2.2.2.2.2.1
theorem f98_96 : zf 98 96 = some (.iload_n 1) := cf98_70.2.2.2.2.2.2.2.2.2.2.2.2.2.2.1
theorem f98_97 : zf 98 97 = some (.iconst 5) := cf98_70.2.2.2.2.2.2.2.2.2.2.2.2.2.2.2
theorem cf98_98 : zf 98 98 = some (.isub) ∧ zf 98 99 = some (.invokestatic 210) ∧ zf 98 102 = some (.lreturn) ∧ zf 98 103 = some (.ldc2_w 201) ∧ zf 98 106 = some (.lreturn) := by decide +kernel
theorem f98_98 : zf 98 98 = some (.isub) := cf98_98.1
theorem f98_99 : zf 98 99 = some (.invokestatic 210) := cf98_98.2.1
theorem f98_102 : zf 98 102 = some (.lreturn) := cf98_98.2.2.1
theorem f98_103 : zf 98 103 = some (.ldc2_w 201) := cf98_98.2.2.2.1
theorem f98_106 : zf 98 106 = some (.lreturn) := cf98_98.2.2.2.2
theorem cf99_0 : zf 99 0 = some (.iload_n 1) ∧ zf 99 1 = some (.iconst 0) ∧ zf 99 2 = some (.iconst 4) ∧ zf 99 3 = some (.invokestatic 74) ∧ zf 99 6 = some (.ifCond .ne 5) ∧ zf 99 9 = some (.iconst (-1)) ∧ zf 99 10 = some (.ireturn) ∧ zf 99 11 = some (.aload_n 0) ∧ zf 99 12 = some (.getfield 25) ∧ zf 99 15 = some (.getfield 134) ∧ zf 99 18 = some (.aload_n 0) ∧ zf 99 19 = some (.getfield 21) ∧ zf 99 22 = some (.getfield 134) ∧ zf 99 25 = some (.invokevirtual 269) ∧ zf 99 28 = some (.aload_n 0) ∧ zf 99 29 = some (.getfield 38) := by decide +kernel
theorem f99_0 : zf 99 0 = some (.iload_n 1) := cf99_0.1
theorem f99_1 : zf 99 1 = some (.iconst 0) := cf99_0.2.1
theorem f99_2 : zf 99 2 = some (.iconst 4) := cf99_0.2.2.1
theorem f99_3 : zf 99 3 = some (.invokestatic 74) := cf99_0.2.2.2.1
theorem f99_6 : zf 99 6 = some (.ifCond .ne 5) := cf99_0.2.2.2.2.1
theorem f99_9 : zf 99 9 = some (.iconst (-1)) := cf99_0.2.2.2.2.2.1
theorem f99_10 : zf 99 10 = some (.ireturn) := cf99_0.2.2.2.2.2.2.1
theorem f99_11 : zf 99 11 = some (.aload_n 0) := cf99_0.2.2.2.2.2.2.2.1
theorem f99_12 : zf 99 12 = some (.getfield 25) := cf99_0.2.2.2.2.2.2.2.2.1
theorem f99_15 : zf 99 15 = some (.getfield 134) := cf99_0.2.2.2.2.2.2.2.2.2.1
theorem f99_18 : zf 99 18 = some (.aload_n 0) := cf99_0.2.2.2.2.2.2.2.2.2.2.1
theorem f99_19 : zf 99 19 = some (.getfield 21) := cf99_0.2.2.2.2.2.2.2.2.2.2.2.1
theorem f99_22 : zf 99 22 = some (.getfield 134) := cf99_0.2.2.2.2.2.2.2.2.2.2.2.2.1
theorem f99_25 : zf 99 25 = some (.invokevirtual 269) := cf99_0.2.2.2.2.2.2.2.2.2.2.2.2.2.1
theorem f99_28 : zf 99 28 = some (.aload_n 0) := cf99_0.2.2.2.2.2.2.2.2.2.2.2.2.2.2.1
theorem f99_29 : zf 99 29 = some (.getfield 38) := cf99_0.2.2.2.2.2.2.2.2.2.2.2.2.2.2.2
theorem cf99_32 : zf 99 32 = some (.aload_n 0) ∧ zf 99 33 = some (.getfield 25) ∧ zf 99 36 = some (.invokevirtual 273) ∧ zf 99 39 = some (.istore_n 2) ∧ zf 99 40 = some (.iload_n 1) ∧ zf 99 41 = some (.ifCond .ne 5) ∧ zf 99 44 = some (.iload_n 2) ∧ zf 99 45 = some (.ireturn) ∧ zf 99 46 = some (.iload_n 2) ∧ zf 99 47 = some (.iconst 1) ∧ zf 99 48 = some (.if_icmp .ne 14) ∧ zf 99 51 = some (.aload_n 0) ∧ zf 99 52 = some (.getfield 38) ∧ zf 99 55 = some (.iload_n 1) ∧ zf 99 56 = some (.invokevirtual 277) ∧ zf 99 59 = some (.goto 4) := by decide +kernel
theorem f99_32 : zf 99 32 = some (.aload_n 0) := cf99_32.1
theorem f99_33 : zf 99 33 = some (.getfield 25) := cf99_32.2.1
theorem f99_36 : zf 99 36 = some (.invokevirtual 273) := cf99_32.2.2.1
theorem f99_39 : zf 99 39 = some (.istore_n 2) := cf99_32.2.2.2.1
theorem f99_40 : zf 99 40 = some (.iload_n 1) := cf99_32.2.2.2.2.1
theorem f99_41 : zf 99 41 = some (.ifCond .ne 5) := cf99_32.2.2.2.2.2.1
theorem f99_44 : zf 99 44 = some (.iload_n 2) := cf99_32.2.2.2.2.2.2.1
theorem f99_45 : zf 99 45 = some (.ireturn) := cf99_32.2.2.2.2.2.2.2.1
theorem f99_46 : zf 99 46 = some (.iload_n 2) := cf99_32.2.2.2.2.2.2.2.2.1
theorem f99_47 : zf 99 47 = some (.iconst 1) := cf99_32.2.2.2.2.2.2.2.2.2.1
theorem f99_48 : zf 99 48 = some (.if_icmp .ne 14) := cf99_32.2.2.2.2.2.2.2.2.2.2.1
theorem f99_51 : zf 99 51 = some (.aload_n 0) := cf99_32.2.2.2.2.2.2.2.2.2.2.2.1
theorem f99_52 : zf 99 52 = some (.getfield 38) := cf99_32.2.2.2.2.2.2.2.2.2.2.2.2.1
theorem f99_55 : zf 99 55 = some (.iload_n 1) := cf99_32.2.2.2.2.2.2.2.2.2.2.2.2.2.1
theorem f99_56 : zf 99 56 = some (.invokevirtual 277) := cf99_32.2.2.2.2.2.2.2.2.2.2.2.2.2.2.1
theorem f99_59 : zf 99 59 = some (.goto 4) := cf99_32.2.2.2.2.2.2.2.2.2.2.2.2.2.2.2
theorem cf99_62 : zf 99 62 = some (.iconst (-1)) ∧ zf 99 63 = some (.ireturn) := by decide +kernel
theorem f99_62 : zf 99 62 = some (.iconst (-1)) := cf99_62.1
theorem f99_63 : zf 99 63 = some (.ireturn) := cf99_62.2
theorem cf100_0 : zf 100 0 = some (.aload_n 0) ∧ zf 100 1 = some (.getfield 10) ∧ zf 100 4 = some (.iload_n 1) ∧ zf 100 5 = some (.invokevirtual 109) ∧ zf 100 8 = some (.ifCond .eq 55) ∧ zf 100 11 = some (.iload_n 2) ∧ zf 100 12 = some (.iconst 1) ∧ zf 100 13 = some (.bipush 20) ∧ zf 100 15 = some (.invokestatic 74) ∧ zf 100 18 = some (.ifCond .eq 45) ∧ zf 100 21 = some (.iload_n 3) ∧ zf 100 22 = some (.iconst 1) ∧ zf 100 23 = some (.bipush 20) ∧ zf 100 25 = some (.invokestatic 74) ∧ zf 100 28 = some (.ifCond .eq 35) ∧ zf 100 31 = some (.aload_n 0) := by decide +kernel
theorem f100_0 : zf 100 0 = some (.aload_n 0) := cf100_0.1
theorem f100_1 : zf 100 1 = some (.getfield 10) := cf100_0.2.1
theorem f100_4 : zf 100 4 = some (.iload_n 1) := cf100_0.2.2.1
theorem f100_5 : zf 100 5 = some (.invokevirtual 109) := cf100_0.2.2.2.1
theorem f100_8 : zf 100 8 = some (.ifCond .eq 55) := cf100_0.2.2.2.2.1
theorem f100_11 : zf 100 11 = some (.iload_n 2) := cf100_0.2.2.2.2.2.1
theorem f100_12 : zf 100 12 = some (.iconst 1) := cf100_0.2.2.2.2.2.2.1
theorem f100_13 : zf 100 13 = some (.bipush 20) := cf100_0.2.2.2.2.2.2.2.1
theorem f100_15 : zf 100 15 = some (.invokestatic 74) := cf100_0.2.2.2.2.2.2.2.2.1
theorem f100_18 : zf 100 18 = some (.ifCond .eq 45) := cf100_0.2.2.2.2.2.2.2.2.2.1
theorem f100_21 : zf 100 21 = some (.iload_n 3) := cf100_0.2.2.2.2.2.2.2.2.2.2.1
theorem f100_22 : zf 100 22 = some (.iconst 1) := cf100_0.2.2.2.2.2.2.2.2.2.2.2.1
theorem f100_23 : zf 100 23 = some (.bipush 20) := cf100_0.2.2.2.2.2.2.2.2.2.2.2.2.1
theorem f100_25 : zf 100 25 = some (.invokestatic 74) := cf100_0.2.2.2.2.2.2.2.2.2.2.2.2.2.1
theorem f100_28 : zf 100 28 = some (.ifCond .eq 35) := cf100_0.2.2.2.2.2.2.2.2.2.2.2.2.2.2.1
theorem f100_31 : zf 100 31 = some (.aload_n 0) := cf100_0.2.2.2.2.2.2.2.2.2.2.2.2.2.2.2
theorem cf100_32 : zf 100 32 = some (.getfield 10) ∧ zf 100 35 = some (.iload 4) ∧ zf 100 37 = some (.invokevirtual 100) ∧ zf 100 40 = some (.ifCond .eq 23) ∧ zf 100 43 = some (.iload 5) ∧ zf 100 45 = some (.sipush 10000) ∧ zf 100 48 = some (.if_icmp .gt 15) ∧ zf 100 51 = some (.aload_n 0) ∧ zf 100 52 = some (.getfield 21) ∧ zf 100 55 = some (.iload 5) ∧ zf 100 57 = some (.invokevirtual 279) ∧ zf 100 60 = some (.ifCond .ne 9) ∧ zf 100 63 = some (.aload_n 0) ∧ zf 100 64 = some (.iconst 1) ∧ zf 100 65 = some (.invokevirtual 78) ∧ zf 100 68 = some (.ireturn) := by decide +kernel
theorem f100_32 : zf 100 32 = some (.getfield 10) := cf100_32.1
theorem f100_35 : zf 100 35 = some (.iload 4) := cf100_32.2.1
theorem f100_37 : zf 100 37 = some (.invokevirtual 100) := cf100_32.2.2.1
theorem f100_40 : zf 100 40 = some (.ifCond .eq 23) := cf100_32.2.2.2.1
theorem f100_43 : zf 100 43 = some (.iload 5) := cf100_32.2.2.2.2.1
theorem f100_45 : zf 100 45 = some (.sipush 10000) := cf100_32.2.2.2.2.2.1
theorem f100_48 : zf 100 48 = some (.if_icmp .gt 15) := cf100_32.2.2.2.2.2.2.1
theorem f100_51 : zf 100 51 = some (.aload_n 0) := cf100_32.2.2.2.2.2.2.2.1
theorem f100_52 : zf 100 52 = some (.getfield 21) := cf100_32.2.2.2.2.2.2.2.2.1
theorem f100_55 : zf 100 55 = some (.iload 5) := cf100_32.2.2.2.2.2.2.2.2.2.1
theorem f100_57 : zf 100 57 = some (.invokevirtual 279) := cf100_32.2.2.2.2.2.2.2.2.2.2.1
theorem f100_60 : zf 100 60 = some (.ifCond .ne 9) := cf100_32.2.2.2.2.2.2.2.2.2.2.2.1
theorem f100_63 : zf 100 63 = some (.aload_n 0) := cf100_32.2.2.2.2.2.2.2.2.2.2.2.2.1
theorem f100_64 : zf 100 64 = some (.iconst 1) := cf100_32.2.2.2.2.2.2.2.2.2.2.2.2.2.1
theorem f100_65 : zf 100 65 = some (.invokevirtual 78) := cf100_32.2.2.2.2.2.2.2.2.2.2.2.2.2.2.1
theorem f100_68 : zf 100 68 = some (.ireturn) := cf100_32.2.2.2.2.2.2.2.2.2.2.2.2.2.2.2
theorem cf100_69 : zf 100 69 = some (.iload_n 2) ∧ zf 100 70 = some (.istore 6) ∧ zf 100 72 = some (.iload 6) ∧ zf 100 74 = some (.iload_n 3) ∧ zf 100 75 = some (.if_icmp .gt 58) ∧ zf 100 78 = some (.aload_n 0) ∧ zf 100 79 = some (.getfield 25) ∧ zf 100 82 = some (.getfield 134) ∧ zf 100 85 = some (.aload_n 0) ∧ zf 100 86 = some (.getfield 21) ∧ zf 100 89 = some (.getfield 134) ∧ zf 100 92 = some (.invokevirtual 269) ∧ zf 100 95 = some (.aload_n 0) ∧ zf 100 96 = some (.getfield 25) ∧ zf 100 99 = some (.getfield 134) ∧ zf 100 102 = some (.getfield 138) := by decide +kernel
theorem f100_69 : zf 100 69 = some (.iload_n 2) := cf100_69.1
theorem f100_70 : zf 100 70 = some (.istore 6) := cf100_69.2.1
theorem f100_72 : zf 100 72 = some (.iload 6) := cf100_69.2.2.1
theorem f100_74 : zf 100 74 = some (.iload_n 3) := cf100_69.2.2.2.1
theorem f100_75 : zf 100 75 = some (.if_icmp .gt 58) := cf100_69.2.2.2.2.1
theorem f100_78 : zf 100 78 = some (.aload_n 0) := cf100_69.2.2.2.2.2.1
theorem f100_79 : zf 100 79 = some (.getfield 25) := cf100_69.2.2.2.2.2.2.1
theorem f100_82 : zf 100 82 = some (.getfield 134) := cf100_69.2.2.2.2.2.2.2.1
theorem f100_85 : zf 100 85 = some (.aload_n 0) := cf100_69.2.2.2.2.2.2.2.2.1
theorem f100_86 : zf 100 86 = some (.getfield 21) := cf100_69.2.2.2.2.2.2.2.2.2.1
theorem f100_89 : zf 100 89 = some (.getfield 134) := cf100_69.2.2.2.2.2.2.2.2.2.2.1
theorem f100_92 : zf 100 92 = some (.invokevirtual 269) := cf100_69.2.2.2.2.2.2.2.2.2.2.2.1
theorem f100_95 : zf 100 95 = some (.aload_n 0) := cf100_69.2.2.2.2.2.2.2.2.2.2.2.2.1
theorem f100_96 : zf 100 96 = some (.getfield 25) := cf100_69.2.2.2.2.2.2.2.2.2.2.2.2.2.1
theorem f100_99 : zf 100 99 = some (.getfield 134) := cf100_69.2.2.2.2.2.2.2.2.2.2.2.2.2.2.1
theorem f100_102 : zf 100 102 = some (.getfield 138) := cf100_69.2.2.2.2.2.2.2.2.2.2.2.2.2.2.2
theorem cf100_105 : zf 100 105 = some (.iload_n 1) ∧ zf 100 106 = some (.iload 6) ∧ zf 100 108 = some (.iastore) ∧ zf 100 109 = some (.aload_n 0) ∧ zf 100 110 = some (.iload 4) ∧ zf 100 112 = some (.iload 5) ∧ zf 100 114 = some (.invokevirtual 282) ∧ zf 100 117 = some (.ifCond .eq 10) ∧ zf 100 120 = some (.aload_n 0) ∧ zf 100 121 = some (.iload 6) ∧ zf 100 123 = some (.invokevirtual 181) ∧ zf 100 126 = some (.ireturn) ∧ zf 100 127 = some (.iinc 6 1) ∧ zf 100 130 = some (.goto (-58)) ∧ zf 100 133 = some (.aload_n 0) ∧ zf 100 134 = some (.iconst 3) := by decide +kernel
theorem f100_105 : zf 100 105 = some (.iload_n 1) := cf100_105.1
theorem f100_106 : zf 100 106 = some (.iload 6) := cf100_105.2.1
theorem f100_108 : zf 100 108 = some (.iastore) := cf100_105.2.2.1
theorem f100_109 : zf 100 109 = some (.aload_n 0) := cf100_105.2.2.2.1
theorem f100_110 : zf 100 110 = some (.iload 4) := cf100_105.2.2.2.2.1
theorem f100_112 : zf 100 112 = some (.iload 5) := cf100_105.2.2.2.2.2.1
theorem f100_114 : zf 100 114 = some (.invokevirtual 282) := cf100_105.2.2.2.2.2.2.1
theorem f100_117 : zf 100 117 = some (.ifCond .eq 10) := cf100_105.2.2.2.2.2.2.2.1
theorem f100_120 : zf 100 120 = some (.aload_n 0) := cf100_105.2.2.2.2.2.2.2.2.1
theorem f100_121 : zf 100 121 = some (.iload 6) := cf100_105.2.2.2.2.2.2.2.2.2.1
theorem f100_123 : zf 100 123 = some (.invokevirtual 181) := cf100_105.2.2.2.2.2.2.2.2.2.2.1
theorem f100_126 : zf 100 126 = some (.ireturn) := cf100_105.2.2.2.2.2.2.2.2.2.2.2.1
theorem f100_127 : zf 100 127 = some (.iinc 6 1) := cf100_105.2.2.2.2.2.2.2.2.2.2.2.2.1
theorem f100_130 : zf 100 130 = some (.goto (-58)) := cf100_105.2.2.2.2.2.2.2.2.2.2.2.2.2.1
theorem f100_133 : zf 100 133 = some (.aload_n 0) := cf100_105.2.2.2.2.2.2.2.2.2.2.2.2.2.2.1
theorem f100_134 : zf 100 134 = some (.iconst 3) := cf100_105.2.2.2.2.2.2.2.2.2.2.2.2.2.2.2
theorem cf100_135 : zf 100 135 = some (.invokevirtual 78) ∧ zf 100 138 = some (.ireturn) := by decide +kernel
theorem f100_135 : zf 100 135 = some (.invokevirtual 78) := cf100_135.1
theorem f100_138 : zf 100 138 = some (.ireturn) := cf100_135.2
theorem cf101_0 : zf 101 0 = some (.aload_n 0) ∧ zf 101 1 = some (.getfield 10) ∧ zf 101 4 = some (.iload_n 1) ∧ zf 101 5 = some (.invokevirtual 112) ∧ zf 101 8 = some (.istore 4) ∧ zf 101 10 = some (.iload 4) ∧ zf 101 12 = some (.iconst 0) ∧ zf 101 13 = some (.iconst 4) ∧ zf 101 14 = some (.invokestatic 74) ∧ zf 101 17 = some (.ifCond .eq 12) ∧ zf 101 20 = some (.iload_n 2) ∧ zf 101 21 = some (.iconst 0) ∧ zf 101 22 = some (.iconst 3) ∧ zf 101 23 = some (.invokestatic 74) ∧ zf 101 26 = some (.ifCond .ne 9) ∧ zf 101 29 = some (.aload_n 0) := by decide +kernel
theorem f101_0 : zf 101 0 = some (.aload_n 0) := cf101_0.1
theorem f101_1 : zf 101 1 = some (.getfield 10) := cf101_0.2.1
theorem f101_4 : zf 101 4 = some (.iload_n 1) := cf101_0.2.2.1
theorem f101_5 : zf 101 5 = some (.invokevirtual 112) := cf101_0.2.2.2.1
theorem f101_8 : zf 101 8 = some (.istore 4) := cf101_0.2.2.2.2.1
theorem f101_10 : zf 101 10 = some (.iload 4) := cf101_0.2.2.2.2.2.1
theorem f101_12 : zf 101 12 = some (.iconst 0) := cf101_0.2.2.2.2.2.2.1
theorem f101_13 : zf 101 13 = some (.iconst 4) := cf101_0.2.2.2.2.2.2.2.1
theorem f101_14 : zf 101 14 = some (.invokestatic 74) := cf101_0.2.2.2.2.2.2.2.2.1
theorem f101_17 : zf 101 17 = some (.ifCond .eq 12) := cf101_0.2.2.2.2.2.2.2.2.2.1
theorem f101_20 : zf 101 20 = some (.iload_n 2) := cf101_0.2.2.2.2.2.2.2.2.2.2.1
theorem f101_21 : zf 101 21 = some (.iconst 0) := cf101_0.2.2.2.2.2.2.2.2.2.2.2.1
theorem f101_22 : zf 101 22 = some (.iconst 3) := cf101_0.2.2.2.2.2.2.2.2.2.2.2.2.1
theorem f101_23 : zf 101 23 = some (.invokestatic 74) := cf101_0.2.2.2.2.2.2.2.2.2.2.2.2.2.1
theorem f101_26 : zf 101 26 = some (.ifCond .ne 9) := cf101_0.2.2.2.2.2.2.2.2.2.2.2.2.2.2.1
theorem f101_29 : zf 101 29 = some (.aload_n 0) := cf101_0.2.2.2.2.2.2.2.2.2.2.2.2.2.2.2
theorem cf101_30 : zf 101 30 = some (.iconst 1) ∧ zf 101 31 = some (.invokevirtual 78) ∧ zf 101 34 = some (.ireturn) ∧ zf 101 35 = some (.aload_n 0) ∧ zf 101 36 = some (.getfield 51) ∧ zf 101 39 = some (.iload 4) ∧ zf 101 41 = some (.aaload) ∧ zf 101 42 = some (.astore 5) ∧ zf 101 44 = some (.aload 5) ∧ zf 101 46 = some (.ifnonnull 9) ∧ zf 101 49 = some (.aload_n 0) ∧ zf 101 50 = some (.iconst 1) ∧ zf 101 51 = some (.invokevirtual 78) ∧ zf 101 54 = some (.ireturn) ∧ zf 101 55 = some (.aload_n 0) ∧ zf 101 56 = some (.getfield 45) := by decide +kernel
theorem f101_30 : zf 101 30 = some (.iconst 1) := cf101_30.1
theorem f101_31 : zf 101 31 = some (.invokevirtual 78) := cf101_30.2.1
theorem f101_34 : zf 101 34 = some (.ireturn) := cf101_30.2.2.1
theorem f101_35 : zf 101 35 = some (.aload_n 0) := cf101_30.2.2.2.1
theorem f101_36 : zf 101 36 = some (.getfield 51) := cf101_30.2.2.2.2.1
theorem f101_39 : zf 101 39 = some (.iload 4) := cf101_30.2.2.2.2.2.1
theorem f101_41 : zf 101 41 = some (.aaload) := cf101_30.2.2.2.2.2.2.1
theorem f101_42 : zf 101 42 = some (.astore 5) := cf101_30.2.2.2.2.2.2.2.1
theorem f101_44 : zf 101 44 = some (.aload 5) := cf101_30.2.2.2.2.2.2.2.2.1
theorem f101_46 : zf 101 46 = some (.ifnonnull 9) := cf101_30.2.2.2.2.2.2.2.2.2.1
theorem f101_49 : zf 101 49 = some (.aload_n 0) := cf101_30.2.2.2.2.2.2.2.2.2.2.1
theorem f101_50 : zf 101 50 = some (.iconst 1) := cf101_30.2.2.2.2.2.2.2.2.2.2.2.1
theorem f101_51 : zf 101 51 = some (.invokevirtual 78) := cf101_30.2.2.2.2.2.2.2.2.2.2.2.2.1
theorem f101_54 : zf 101 54 = some (.ireturn) := cf101_30.2.2.2.2.2.2.2.2.2.2.2.2.2.1
theorem f101_55 : zf 101 55 = some (.aload_n 0) := cf101_30.2.2.2.2.2.2.2.2.2.2.2.2.2.2.1
theorem f101_56 : zf 101 56 = some (.getfield 45) := cf101_30.2.2.2.2.2.2.2.2.2.2.2.2.2.2.2
theorem cf101_59 : zf 101 59 = some (.aload_n 0) ∧ zf 101 60 = some (.getfield 10) ∧ zf 101 63 = some (.aload_n 0) ∧ zf 101 64 = some (.getfield 21) ∧ zf 101 67 = some (.getfield 134) ∧ zf 101 70 = some (.iload_n 1) ∧ zf 101 71 = some (.invokevirtual 285) ∧ zf 101 74 = some (.iload_n 2) ∧ zf 101 75 = some (.tableswitch 58 0 2 #[25, 36, 47]) ∧ zf 101 100 = some (.aload_n 0) ∧ zf 101 101 = some (.aload 5) ∧ zf 101 103 = some (.iload_n 3) ∧ zf 101 104 = some (.invokevirtual 289) ∧ zf 101 107 = some (.invokevirtual 181) ∧ zf 101 110 = some (.ireturn) ∧ zf 101 111 = some (.aload_n 0) := by decide +kernel
theorem f101_59 : zf 101 59 = some (.aload_n 0) := cf101_59.1
theorem f101_60 : zf 101 60 = some (.getfield 10) := cf101_59.2.1
theorem f101_63 : zf 101 63 = some (.aload_n 0) := cf101_59.2.2.1
theorem f101_64 : zf 101 64 = some (.getfield 21) := cf101_59.2.2.2.1
theorem f101_67 : zf 101 67 = some (.getfield 134) := cf101_59.2.2.2.2.1
theorem f101_70 : zf 101 70 = some (.iload_n 1) := cf101_59.2.2.2.2.2.1
theorem f101_71 : zf 101 71 = some (.invokevirtual 285) := cf101_59.2.2.2.2.2.2.1
theorem f101_74 : zf 101 74 = some (.iload_n 2) := cf101_59.2.2.2.2.2.2.2.1
theorem f101_75 : zf 101 75 = some (.tableswitch 58 0 2 #[25, 36, 47]) := cf101_59.2.2.2.2.2.2.2.2.1
theorem f101_100 : zf 101 100 = some (.aload_n 0) := cf101_59.2.2.2.2.2.2.2.2.2.1
theorem f101_101 : zf 101 101 = some (.aload 5) := cf101_59.2.2.2.2.2.2.2.2.2.2.1
theorem f101_103 : zf 101 103 = some (.iload_n 3) := cf101_59.2.2.2.2.2.2.2.2.2.2.2.1
theorem f101_104 : zf 101 104 = some (.invokevirtual 289) := cf101_59.2.2.2.2.2.2.2.2.2.2.2.2.1
theorem f101_107 : zf 101 107 = some (.invokevirtual 181) := cf101_59.2.2.2.2.2.2.2.2.2.2.2.2.2.1
theorem f101_110 : zf 101 110 = some (.ireturn) := cf101_59.2.2.2.2.2.2.2.2.2.2.2.2.2.2.1
theorem f101_111 : zf 101 111 = some (.aload_n 0) := cf101_59.2.2.2.2.2.2.2.2.2.2.2.2.2.2.2
theorem cf101_112 : zf 101 112 = some (.aload 5) ∧ zf 101 114 = some (.iload_n 3) ∧ zf 101 115 = some (.invokevirtual 292) ∧ zf 101 118 = some (.invokevirtual 181) ∧ zf 101 121 = some (.ireturn) ∧ zf 101 122 = some (.aload_n 0) ∧ zf 101 123 = some (.aload 5) ∧ zf 101 125 = some (.iload_n 3) ∧ zf 101 126 = some (.invokevirtual 295) ∧ zf 101 129 = some (.invokevirtual 181) ∧ zf 101 132 = some (.ireturn) ∧ zf 101 133 = some (.aload_n 0) ∧ zf 101 134 = some (.aload 5) ∧ zf 101 136 = some (.iload_n 3) ∧ zf 101 137 = some (.invokevirtual 298) ∧ zf 101 140 = some (.invokevirtual 181) := by decide +kernel
theorem f101_112 : zf 101 112 = some (.aload 5) := cf101_112.1
theorem f101_114 : zf 101 114 = some (.iload_n 3) := cf101_112.2.1
theorem f101_115 : zf 101 115 = some (.invokevirtual 292) := cf101_112.2.2.1
theorem f101_118 : zf 101 118 = some (.invokevirtual 181) := cf101_112.2.2.2.1
theorem f101_121 : zf 101 121 = some (.ireturn) := cf101_112.2.2.2.2.1
theorem f101_122 : zf 101 122 = some (.aload_n 0) := cf101_112.2.2.2.2.2.1
theorem f101_123 : zf 101 123 = some (.aload 5) := cf101_112.2.2.2.2.2.2.1
theorem f101_125 : zf 101 125 = some (.iload_n 3) := cf101_112.2.2.2.2.2.2.2.1
theorem f101_126 : zf 101 126 = some (.invokevirtual 295) := cf101_112.2.2.2.2.2.2.2.2.1
theorem f101_129 : zf 101 129 = some (.invokevirtual 181) := cf101_112.2.2.2.2.2.2.2.2.2.1
theorem f101_132 : zf 101 132 = some (.ireturn) := cf101_112.2.2.2.2.2.2.2.2.2.2.1
theorem f101_133 : zf 101 133 = some (.aload_n 0) := cf101_112.2.2.2.2.2.2.2.2.2.2.2.1
theorem f101_134 : zf 101 134 = some (.aload 5) := cf101_112.2.2.2.2.2.2.2.2.2.2.2.2.1
theorem f101_136 : zf 101 136 = some (.iload_n 3) := cf101_112.2.2.2.2.2.2.2.2.2.2.2.2.2.1
theorem f101_137 : zf 101 137 = some (.invokevirtual 298) := cf101_112.2.2.2.2.2.2.2.2.2.2.2.2.2.2.1
theorem f101_140 : zf 101 140 = some (.invokevirtual 181) := cf101_112.2.2.2.2.2.2.2.2.2.2.2.2.2.2.2
theorem f101_143 : zf 101 143 = some (.ireturn) := by decide +kernel
theorem cf102_0 : zf 102 0 = some (.iload_n 1) ∧ zf 102 1 = some (.ifCond .lt 32) ∧ zf 102 4 = some (.iload_n 1) ∧ zf 102 5 = some (.aload_n 0) ∧ zf 102 6 = some (.getfield 45) ∧ zf 102 9 = some (.getfield 256) ∧ zf 102 12 = some (.if_icmp .ge 21) ∧ zf 102 15 = some (.iload_n 1) ∧ zf 102 16 = some (.bipush 50) ∧ zf 102 18 = some (.if_icmp .ge 15) ∧ zf 102 21 = some (.aload_n 0) ∧ zf 102 22 = some (.getfield 45) ∧ zf 102 25 = some (.getfield 301) ∧ zf 102 28 = some (.iload_n 1) ∧ zf 102 29 = some (.iaload) ∧ zf 102 30 = some (.goto 4) := by decide +kernel
theorem f102_0 : zf 102 0 = some (.iload_n 1) := cf102_0.1
theorem f102_1 : zf 102 1 = some (.ifCond .lt 32) := cf102_0.2.1
theorem f102_4 : zf 102 4 = some (.iload_n 1) := cf102_0.2.2.1
theorem f102_5 : zf 102 5 = some (.aload_n 0) := cf102_0.2.2.2.1
theorem f102_6 : zf 102 6 = some (.getfield 45) := cf102_0.2.2.2.2.1
theorem f102_9 : zf 102 9 = some (.getfield 256) := cf102_0.2.2.2.2.2.1
theorem f102_12 : zf 102 12 = some (.if_icmp .ge 21) := cf102_0.2.2.2.2.2.2.1
theorem f102_15 : zf 102 15 = some (.iload_n 1) := cf102_0.2.2.2.2.2.2.2.1
theorem f102_16 : zf 102 16 = some (.bipush 50) := cf102_0.2.2.2.2.2.2.2.2.1
theorem f102_18 : zf 102 18 = some (.if_icmp .ge 15) := cf102_0.2.2.2.2.2.2.2.2.2.1
theorem f102_21 : zf 102 21 = some (.aload_n 0) := cf102_0.2.2.2.2.2.2.2.2.2.2.1
theorem f102_22 : zf 102 22 = some (.getfield 45) := cf102_0.2.2.2.2.2.2.2.2.2.2.2.1
theorem f102_25 : zf 102 25 = some (.getfield 301) := cf102_0.2.2.2.2.2.2.2.2.2.2.2.2.1
theorem f102_28 : zf 102 28 = some (.iload_n 1) := cf102_0.2.2.2.2.2.2.2.2.2.2.2.2.2.1
theorem f102_29 : zf 102 29 = some (.iaload) := cf102_0.2.2.2.2.2.2.2.2.2.2.2.2.2.2.1
theorem f102_30 : zf 102 30 = some (.goto 4) := cf102_0.2.2.2.2.2.2.2.2.2.2.2.2.2.2.2
theorem cf102_33 : zf 102 33 = some (.iconst (-1)) ∧ zf 102 34 = some (.ireturn) := by decide +kernel
theorem f102_33 : zf 102 33 = some (.iconst (-1)) := cf102_33.1
theorem f102_34 : zf 102 34 = some (.ireturn) := cf102_33.2
theorem cf103_0 : zf 103 0 = some (.iload_n 1) ∧ zf 103 1 = some (.iconst 0) ∧ zf 103 2 = some (.bipush 6) ∧ zf 103 4 = some (.invokestatic 74) ∧ zf 103 7 = some (.ifCond .eq 25) ∧ zf 103 10 = some (.iload_n 2) ∧ zf 103 11 = some (.bipush (-100)) ∧ zf 103 13 = some (.bipush 100) ∧ zf 103 15 = some (.invokestatic 74) ∧ zf 103 18 = some (.ifCond .eq 14) ∧ zf 103 21 = some (.iload_n 3) ∧ zf 103 22 = some (.bipush (-100)) ∧ zf 103 24 = some (.bipush 100) ∧ zf 103 26 = some (.invokestatic 74) ∧ zf 103 29 = some (.ifCond .ne 9) ∧ zf 103 32 = some (.aload_n 0) := by decide +kernel
theorem f103_0 : zf 103 0 = some (.iload_n 1) := cf103_0.1
theorem f103_1 : zf 103 1 = some (.iconst 0) := cf103_0.2.1
theorem f103_2 : zf 103 2 = some (.bipush 6) := cf103_0.2.2.1
theorem f103_4 : zf 103 4 = some (.invokestatic 74) := cf103_0.2.2.2.1
theorem f103_7 : zf 103 7 = some (.ifCond .eq 25) := cf103_0.2.2.2.2.1
theorem f103_10 : zf 103 10 = some (.iload_n 2) := cf103_0.2.2.2.2.2.1
theorem f103_11 : zf 103 11 = some (.bipush (-100)) := cf103_0.2.2.2.2.2.2.1
theorem f103_13 : zf 103 13 = some (.bipush 100) := cf103_0.2.2.2.2.2.2.2.1
theorem f103_15 : zf 103 15 = some (.invokestatic 74) := cf103_0.2.2.2.2.2.2.2.2.1
theorem f103_18 : zf 103 18 = some (.ifCond .eq 14) := cf103_0.2.2.2.2.2.2.2.2.2.1
theorem f103_21 : zf 103 21 = some (.iload_n 3) := cf103_0.2.2.2.2.2.2.2.2.2.2.1
theorem f103_22 : zf 103 22 = some (.bipush (-100)) := cf103_0.2.2.2.2.2.2.2.2.2.2.2.1
theorem f103_24 : zf 103 24 = some (.bipush 100) := cf103_0.2.2.2.2.2.2.2.2.2.2.2.2.1
theorem f103_26 : zf 103 26 = some (.invokestatic 74) := cf103_0.2.2.2.2.2.2.2.2.2.2.2.2.2.1
theorem f103_29 : zf 103 29 = some (.ifCond .ne 9) := cf103_0.2.2.2.2.2.2.2.2.2.2.2.2.2.2.1
theorem f103_32 : zf 103 32 = some (.aload_n 0) := cf103_0.2.2.2.2.2.2.2.2.2.2.2.2.2.2.2
theorem cf103_33 : zf 103 33 = some (.iconst 1) ∧ zf 103 34 = some (.invokevirtual 78) ∧ zf 103 37 = some (.ireturn) ∧ zf 103 38 = some (.iload_n 1) ∧ zf 103 39 = some (.tableswitch 147 0 5 #[37, 53, 72, 106, 113, 124]) ∧ zf 103 76 = some (.aload_n 0) ∧ zf 103 77 = some (.iload_n 3) ∧ zf 103 78 = some (.bipush 8) ∧ zf 103 80 = some (.invokestatic 304) ∧ zf 103 83 = some (.iload_n 2) ∧ zf 103 84 = some (.iconst 5) ∧ zf 103 85 = some (.invokestatic 304) ∧ zf 103 88 = some (.invokevirtual 309) ∧ zf 103 91 = some (.ireturn) ∧ zf 103 92 = some (.iload_n 2) ∧ zf 103 93 = some (.ifCond .ge 12) := by decide +kernel
theorem f103_33 : zf 103 33 = some (.iconst 1) := cf103_33.1
theorem f103_34 : zf 103 34 = some (.invokevirtual 78) := cf103_33.2.1
theorem f103_37 : zf 103 37 = some (.ireturn) := cf103_33.2.2.1
theorem f103_38 : zf 103 38 = some (.iload_n 1) := cf103_33.2.2.2.1
theorem f103_39 : zf 103 39 = some (.tableswitch 147 0 5 #[37, 53, 72, 106, 113, 124]) := cf103_33.2.2.2.2.1
theorem f103_76 : zf 103 76 = some (.aload_n 0) := cf103_33.2.2.2.2.2.1
theorem f103_77 : zf 103 77 = some (.iload_n 3) := cf103_33.2.2.2.2.2.2.1
theorem f103_78 : zf 103 78 = some (.bipush 8) := cf103_33.2.2.2.2.2.2.2.1
theorem f103_80 : zf 103 80 = some (.invokestatic 304) := cf103_33.2.2.2.2.2.2.2.2.1
theorem f103_83 : zf 103 83 = some (.iload_n 2) := cf103_33.2.2.2.2.2.2.2.2.2.1
theorem f103_84 : zf 103 84 = some (.iconst 5) := cf103_33.2.2.2.2.2.2.2.2.2.2.1
theorem f103_85 : zf 103 85 = some (.invokestatic 304) := cf103_33.2.2.2.2.2.2.2.2.2.2.2.1
theorem f103_88 : zf 103 88 = some (.invokevirtual 309) := cf103_33.2.2.2.2.2.2.2.2.2.2.2.2.1
theorem f103_91 : zf 103 91 = some (.ireturn) := cf103_33.2.2.2.2.2.2.2.2.2.2.2.2.2.1
theorem f103_92 : zf 103 92 = some (.iload_n 2) := cf103_33.2.2.2.2.2.2.2.2.2.2.2.2.2.2.1
theorem f103_93 : zf 103 93 = some (.ifCond .ge 12) := cf103_33.2.2.2.2.2.2.2.2.2.2.2.2.2.2.2
theorem cf103_96 : zf 103 96 = some (.aload_n 0) ∧ zf 103 97 = some (.bipush 13) ∧ zf 103 99 = some (.invokevirtual 78) ∧ zf 103 102 = some (.goto 8) ∧ zf 103 105 = some (.aload_n 0) ∧ zf 103 106 = some (.iload_n 2) ∧ zf 103 107 = some (.invokevirtual 181) ∧ zf 103 110 = some (.ireturn) ∧ zf 103 111 = some (.aload_n 0) ∧ zf 103 112 = some (.getfield 10) ∧ zf 103 115 = some (.iload_n 2) ∧ zf 103 116 = some (.invokevirtual 89) ∧ zf 103 119 = some (.ifCond .eq 19) ∧ zf 103 122 = some (.aload_n 0) ∧ zf 103 123 = some (.aload_n 0) ∧ zf 103 124 = some (.getfield 10) := by decide +kernel
theorem f103_96 : zf 103 96 = some (.aload_n 0) := cf103_96.1
theorem f103_97 : zf 103 97 = some (.bipush 13) := cf103_96.2.1
theorem f103_99 : zf 103 99 = some (.invokevirtual 78) := cf103_96.2.2.1
theorem f103_102 : zf 103 102 = some (.goto 8) := cf103_96.2.2.2.1
theorem f103_105 : zf 103 105 = some (.aload_n 0) := cf103_96.2.2.2.2.1
theorem f103_106 : zf 103 106 = some (.iload_n 2) := cf103_96.2.2.2.2.2.1
theorem f103_107 : zf 103 107 = some (.invokevirtual 181) := cf103_96.2.2.2.2.2.2.1
theorem f103_110 : zf 103 110 = some (.ireturn) := cf103_96.2.2.2.2.2.2.2.1
theorem f103_111 : zf 103 111 = some (.aload_n 0) := cf103_96.2.2.2.2.2.2.2.2.1
theorem f103_112 : zf 103 112 = some (.getfield 10) := cf103_96.2.2.2.2.2.2.2.2.2.1
theorem f103_115 : zf 103 115 = some (.iload_n 2) := cf103_96.2.2.2.2.2.2.2.2.2.2.1
theorem f103_116 : zf 103 116 = some (.invokevirtual 89) := cf103_96.2.2.2.2.2.2.2.2.2.2.2.1
theorem f103_119 : zf 103 119 = some (.ifCond .eq 19) := cf103_96.2.2.2.2.2.2.2.2.2.2.2.2.1
theorem f103_122 : zf 103 122 = some (.aload_n 0) := cf103_96.2.2.2.2.2.2.2.2.2.2.2.2.2.1
theorem f103_123 : zf 103 123 = some (.aload_n 0) := cf103_96.2.2.2.2.2.2.2.2.2.2.2.2.2.2.1
theorem f103_124 : zf 103 124 = some (.getfield 10) := cf103_96.2.2.2.2.2.2.2.2.2.2.2.2.2.2.2
theorem cf103_127 : zf 103 127 = some (.getfield 96) ∧ zf 103 130 = some (.iload_n 2) ∧ zf 103 131 = some (.iaload) ∧ zf 103 132 = some (.invokevirtual 181) ∧ zf 103 135 = some (.goto 9) ∧ zf 103 138 = some (.aload_n 0) ∧ zf 103 139 = some (.bipush 12) ∧ zf 103 141 = some (.invokevirtual 78) ∧ zf 103 144 = some (.ireturn) ∧ zf 103 145 = some (.aload_n 0) ∧ zf 103 146 = some (.iload_n 2) ∧ zf 103 147 = some (.iload_n 3) ∧ zf 103 148 = some (.invokevirtual 312) ∧ zf 103 151 = some (.ireturn) ∧ zf 103 152 = some (.aload_n 0) ∧ zf 103 153 = some (.iload_n 3) := by decide +kernel
theorem f103_127 : zf 103 127 = some (.getfield 96) := cf103_127.1
theorem f103_130 : zf 103 130 = some (.iload_n 2) := cf103_127.2.1
theorem f103_131 : zf 103 131 = some (.iaload) := cf103_127.2.2.1
theorem f103_132 : zf 103 132 = some (.invokevirtual 181) := cf103_127.2.2.2.1
theorem f103_135 : zf 103 135 = some (.goto 9) := cf103_127.2.2.2.2.1
theorem f103_138 : zf 103 138 = some (.aload_n 0) := cf103_127.2.2.2.2.2.1
theorem f103_139 : zf 103 139 = some (.bipush 12) := cf103_127.2.2.2.2.2.2.1
theorem f103_141 : zf 103 141 = some (.invokevirtual 78) := cf103_127.2.2.2.2.2.2.2.1
theorem f103_144 : zf 103 144 = some (.ireturn) := cf103_127.2.2.2.2.2.2.2.2.1
theorem f103_145 : zf 103 145 = some (.aload_n 0) := cf103_127.2.2.2.2.2.2.2.2.2.1
theorem f103_146 : zf 103 146 = some (.iload_n 2) := cf103_127.2.2.2.2.2.2.2.2.2.2.1
theorem f103_147 : zf 103 147 = some (.iload_n 3) := cf103_127.2.2.2.2.2.2.2.2.2.2.2.1
theorem f103_148 : zf 103 148 = some (.invokevirtual 312) := cf103_127.2.2.2.2.2.2.2.2.2.2.2.2.1
theorem f103_151 : zf 103 151 = some (.ireturn) := cf103_127.2.2.2.2.2.2.2.2.2.2.2.2.2.1
theorem f103_152 : zf 103 152 = some (.aload_n 0) := cf103_127.2.2.2.2.2.2.2.2.2.2.2.2.2.2.1
theorem f103_153 : zf 103 153 = some (.iload_n 3) := cf103_127.2.2.2.2.2.2.2.2.2.2.2.2.2.2.2
theorem cf103_154 : zf 103 154 = some (.bipush 8) ∧ zf 103 156 = some (.invokestatic 304) ∧ zf 103 159 = some (.invokevirtual 315) ∧ zf 103 162 = some (.ireturn) ∧ zf 103 163 = some (.iload_n 2) ∧ zf 103 164 = some (.ifCond .ne 12) ∧ zf 103 167 = some (.aload_n 0) ∧ zf 103 168 = some (.bipush 15) ∧ zf 103 170 = some (.invokevirtual 78) ∧ zf 103 173 = some (.goto 12) ∧ zf 103 176 = some (.aload_n 0) ∧ zf 103 177 = some (.sipush 1000) ∧ zf 103 180 = some (.iload_n 2) ∧ zf 103 181 = some (.idiv) ∧ zf 103 182 = some (.invokevirtual 181) ∧ zf 103 185 = some (.ireturn) := by decide +kernel
theorem f103_154 : zf 103 154 = some (.bipush 8) := cf103_154.1
theorem f103_156 : zf 103 156 = some (.invokestatic 304) := cf103_154.2.1
theorem f103_159 : zf 103 159 = some (.invokevirtual 315) := cf103_154.2.2.1
theorem f103_162 : zf 103 162 = some (.ireturn) := cf103_154.2.2.2.1
theorem f103_163 : zf 103 163 = some (.iload_n 2) := cf103_154.2.2.2.2.1
theorem f103_164 : zf 103 164 = some (.ifCond .ne 12) := cf103_154.2.2.2.2.2.1
theorem f103_167 : zf 103 167 = some (.aload_n 0) := cf103_154.2.2.2.2.2.2.1
theorem f103_168 : zf 103 168 = some (.bipush 15) := cf103_154.2.2.2.2.2.2.2.1
theorem f103_170 : zf 103 170 = some (.invokevirtual 78) := cf103_154.2.2.2.2.2.2.2.2.1
theorem f103_173 : zf 103 173 = some (.goto 12) := cf103_154.2.2.2.2.2.2.2.2.2.1
theorem f103_176 : zf 103 176 = some (.aload_n 0) := cf103_154.2.2.2.2.2.2.2.2.2.2.1
theorem f103_177 : zf 103 177 = some (.sipush 1000) := cf103_154.2.2.2.2.2.2.2.2.2.2.2.1
theorem f103_180 : zf 103 180 = some (.iload_n 2) := cf103_154.2.2.2.2.2.2.2.2.2.2.2.2.1
theorem f103_181 : zf 103 181 = some (.idiv) := cf103_154.2.2.2.2.2.2.2.2.2.2.2.2.2.1
theorem f103_182 : zf 103 182 = some (.invokevirtual 181) := cf103_154.2.2.2.2.2.2.2.2.2.2.2.2.2.2.1
theorem f103_185 : zf 103 185 = some (.ireturn) := cf103_154.2.2.2.2.2.2.2.2.2.2.2.2.2.2.2
theorem cf103_186 : zf 103 186 = some (.iload_n 2) ∧ zf 103 187 = some (.iconst 2) ∧ zf 103 188 = some (.invokestatic 304) ∧ zf 103 191 = some (.ifCond .ne 12) ∧ zf 103 194 = some (.aload_n 0) ∧ zf 103 195 = some (.bipush 10) ∧ zf 103 197 = some (.invokevirtual 78) ∧ zf 103 200 = some (.goto 8) ∧ zf 103 203 = some (.aload_n 0) ∧ zf 103 204 = some (.iconst 1) ∧ zf 103 205 = some (.invokevirtual 181) ∧ zf 103 208 = some (.ireturn) := by decide +kernel
theorem f103_186 : zf 103 186 = some (.iload_n 2) := cf103_186.1
theorem f103_187 : zf 103 187 = some (.iconst 2) := cf103_186.2.1
theorem f103_188 : zf 103 188 = some (.invokestatic 304) := cf103_186.2.2.1
theorem f103_191 : zf 103 191 = some (.ifCond .ne 12) := cf103_186.2.2.2.1
theorem f103_194 : zf 103 194 = some (.aload_n 0) := cf103_186.2.2.2.2.1
theorem f103_195 : zf 103 195 = some (.bipush 10) := cf103_186.2.2.2.2.2.1
theorem f103_197 : zf 103 197 = some (.invokevirtual 78) := cf103_186.2.2.2.2.2.2.1
theorem f103_200 : zf 103 200 = some (.goto 8) := cf103_186.2.2.2.2.2.2.2.1
theorem f103_203 : zf 103 203 = some (.aload_n 0) := cf103_186.2.2.2.2.2.2.2.2.1
theorem f103_204 : zf 103 204 = some (.iconst 1) := cf103_186.2.2.2.2.2.2.2.2.2.1
theorem f103_205 : zf 103 205 = some (.invokevirtual 181) := cf103_186.2.2.2.2.2.2.2.2.2.2.1
theorem f103_208 : zf 103 208 = some (.ireturn) := cf103_186.2.2.2.2.2.2.2.2.2.2.2
theorem cf104_0 : zf 104 0 = some (.aload_n 0) ∧ zf 104 1 = some (.getfield 70) ∧ zf 104 4 = some (.ireturn) := by decide +kernel
theorem f104_0 : zf 104 0 = some (.aload_n 0) := cf104_0.1
theorem f104_1 : zf 104 1 = some (.getfield 70) := cf104_0.2.1
theorem f104_4 : zf 104 4 = some (.ireturn) := cf104_0.2.2
theorem cf105_0 : zf 105 0 = some (.aload_n 0) ∧ zf 105 1 = some (.iload_n 1) ∧ zf 105 2 = some (.putfield 70) ∧ zf 105 5 = some (.iconst (-1)) ∧ zf 105 6 = some (.ireturn) := by decide +kernel
theorem f105_0 : zf 105 0 = some (.aload_n 0) := cf105_0.1
theorem f105_1 : zf 105 1 = some (.iload_n 1) := cf105_0.2.1
theorem f105_2 : zf 105 2 = some (.putfield 70) := cf105_0.2.2.1
theorem f105_5 : zf 105 5 = some (.iconst (-1)) := cf105_0.2.2.2.1
theorem f105_6 : zf 105 6 = some (.ireturn) := cf105_0.2.2.2.2
theorem cf106_0 : zf 106 0 = some (.aload_n 0) ∧ zf 106 1 = some (.iconst 0) ∧ zf 106 2 = some (.putfield 70) ∧ zf 106 5 = some (.iload_n 1) ∧ zf 106 6 = some (.ireturn) := by decide +kernel
theorem f106_0 : zf 106 0 = some (.aload_n 0) := cf106_0.1
theorem f106_1 : zf 106 1 = some (.iconst 0) := cf106_0.2.1
theorem f106_2 : zf 106 2 = some (.putfield 70) := cf106_0.2.2.1
theorem f106_5 : zf 106 5 = some (.iload_n 1) := cf106_0.2.2.2.1
theorem f106_6 : zf 106 6 = some (.ireturn) := cf106_0.2.2.2.2
theorem cf107_0 : zf 107 0 = some (.aload_n 0) ∧ zf 107 1 = some (.getfield 21) ∧ zf 107 4 = some (.invokevirtual 318) ∧ zf 107 7 = some (.aload_n 0) ∧ zf 107 8 = some (.getfield 31) ∧ zf 107 11 = some (.aload_n 0) ∧ zf 107 12 = some (.getfield 21) ∧ zf 107 15 = some (.invokevirtual 187) ∧ zf 107 18 = some (.aload_n 0) ∧ zf 107 19 = some (.iload_n 1) ∧ zf 107 20 = some (.invokevirtual 181) ∧ zf 107 23 = some (.ireturn) := by decide +kernel
theorem f107_0 : zf 107 0 = some (.aload_n 0) := cf107_0.1
theorem f107_1 : zf 107 1 = some (.getfield 21) := cf107_0.2.1
theorem f107_4 : zf 107 4 = some (.invokevirtual 318) := cf107_0.2.2.1
theorem f107_7 : zf 107 7 = some (.aload_n 0) := cf107_0.2.2.2.1
theorem f107_8 : zf 107 8 = some (.getfield 31) := cf107_0.2.2.2.2.1
theorem f107_11 : zf 107 11 = some (.aload_n 0) := cf107_0.2.2.2.2.2.1
theorem f107_12 : zf 107 12 = some (.getfield 21) := cf107_0.2.2.2.2.2.2.1
theorem f107_15 : zf 107 15 = some (.invokevirtual 187) := cf107_0.2.2.2.2.2.2.2.1
theorem f107_18 : zf 107 18 = some (.aload_n 0) := cf107_0.2.2.2.2.2.2.2.2.1
theorem f107_19 : zf 107 19 = some (.iload_n 1) := cf107_0.2.2.2.2.2.2.2.2.2.1
theorem f107_20 : zf 107 20 = some (.invokevirtual 181) := cf107_0.2.2.2.2.2.2.2.2.2.2.1
theorem f107_23 : zf 107 23 = some (.ireturn) := cf107_0.2.2.2.2.2.2.2.2.2.2.2
theorem cf108_0 : zf 108 0 = some (.iconst 0) ∧ zf 108 1 = some (.istore_n 3) ∧ zf 108 2 = some (.iload_n 3) ∧ zf 108 3 = some (.bipush 60) ∧ zf 108 5 = some (.if_icmp .ge 70) ∧ zf 108 8 = some (.aload_n 0) ∧ zf 108 9 = some (.getfield 25) ∧ zf 108 12 = some (.invokevirtual 167) ∧ zf 108 15 = some (.aload_n 0) ∧ zf 108 16 = some (.getfield 25) ∧ zf 108 19 = some (.invokevirtual 170) ∧ zf 108 22 = some (.ifCond .ne 24) ∧ zf 108 25 = some (.aload_n 0) ∧ zf 108 26 = some (.getfield 25) ∧ zf 108 29 = some (.iload_n 2) ∧ zf 108 30 = some (.invokevirtual 174) := by decide +kernel
theorem f108_0 : zf 108 0 = some (.iconst 0) := cf108_0.1
theorem f108_1 : zf 108 1 = some (.istore_n 3) := cf108_0.2.1
theorem f108_2 : zf 108 2 = some (.iload_n 3) := cf108_0.2.2.1
theorem f108_3 : zf 108 3 = some (.bipush 60) := cf108_0.2.2.2.1
theorem f108_5 : zf 108 5 = some (.if_icmp .ge 70) := cf108_0.2.2.2.2.1
theorem f108_8 : zf 108 8 = some (.aload_n 0) := cf108_0.2.2.2.2.2.1
theorem f108_9 : zf 108 9 = some (.getfield 25) := cf108_0.2.2.2.2.2.2.1
theorem f108_12 : zf 108 12 = some (.invokevirtual 167) := cf108_0.2.2.2.2.2.2.2.1
theorem f108_15 : zf 108 15 = some (.aload_n 0) := cf108_0.2.2.2.2.2.2.2.2.1
theorem f108_16 : zf 108 16 = some (.getfield 25) := cf108_0.2.2.2.2.2.2.2.2.2.1
theorem f108_19 : zf 108 19 = some (.invokevirtual 170) := cf108_0.2.2.2.2.2.2.2.2.2.2.1
theorem f108_22 : zf 108 22 = some (.ifCond .ne 24) := cf108_0.2.2.2.2.2.2.2.2.2.2.2.1
theorem f108_25 : zf 108 25 = some (.aload_n 0) := cf108_0.2.2.2.2.2.2.2.2.2.2.2.2.1
theorem f108_26 : zf 108 26 = some (.getfield 25) := cf108_0.2.2.2.2.2.2.2.2.2.2.2.2.2.1
theorem f108_29 : zf 108 29 = some (.iload_n 2) := cf108_0.2.2.2.2.2.2.2.2.2.2.2.2.2.2.1
theorem f108_30 : zf 108 30 = some (.invokevirtual 174) := cf108_0.2.2.2.2.2.2.2.2.2.2.2.2.2.2.2
theorem cf108_33 : zf 108 33 = some (.ifCond .ne 13) ∧ zf 108 36 = some (.aload_n 0) ∧ zf 108 37 = some (.getfield 25) ∧ zf 108 40 = some (.invokevirtual 184) ∧ zf 108 43 = some (.ifCond .ne 5) ∧ zf 108 46 = some (.iconst 0) ∧ zf 108 47 = some (.ireturn) ∧ zf 108 48 = some (.aload_n 0) ∧ zf 108 49 = some (.getfield 25) ∧ zf 108 52 = some (.iconst 4) ∧ zf 108 53 = some (.iload_n 1) ∧ zf 108 54 = some (.invokevirtual 321) ∧ zf 108 57 = some (.ifCond .eq 12) ∧ zf 108 60 = some (.aload_n 0) ∧ zf 108 61 = some (.getfield 25) ∧ zf 108 64 = some (.iload_n 2) := by decide +kernel
theorem f108_33 : zf 108 33 = some (.ifCond .ne 13) := cf108_33.1
theorem f108_36 : zf 108 36 = some (.aload_n 0) := cf108_33.2.1
theorem f108_37 : zf 108 37 = some (.getfield 25) := cf108_33.2.2.1
theorem f108_40 : zf 108 40 = some (.invokevirtual 184) := cf108_33.2.2.2.1
theorem f108_43 : zf 108 43 = some (.ifCond .ne 5) := cf108_33.2.2.2.2.1
theorem f108_46 : zf 108 46 = some (.iconst 0) := cf108_33.2.2.2.2.2.1
theorem f108_47 : zf 108 47 = some (.ireturn) := cf108_33.2.2.2.2.2.2.1
theorem f108_48 : zf 108 48 = some (.aload_n 0) := cf108_33.2.2.2.2.2.2.2.1
theorem f108_49 : zf 108 49 = some (.getfield 25) := cf108_33.2.2.2.2.2.2.2.2.1
theorem f108_52 : zf 108 52 = some (.iconst 4) := cf108_33.2.2.2.2.2.2.2.2.2.1
theorem f108_53 : zf 108 53 = some (.iload_n 1) := cf108_33.2.2.2.2.2.2.2.2.2.2.1
theorem f108_54 : zf 108 54 = some (.invokevirtual 321) := cf108_33.2.2.2.2.2.2.2.2.2.2.2.1
theorem f108_57 : zf 108 57 = some (.ifCond .eq 12) := cf108_33.2.2.2.2.2.2.2.2.2.2.2.2.1
theorem f108_60 : zf 108 60 = some (.aload_n 0) := cf108_33.2.2.2.2.2.2.2.2.2.2.2.2.2.1
theorem f108_61 : zf 108 61 = some (.getfield 25) := cf108_33.2.2.2.2.2.2.2.2.2.2.2.2.2.2.1
theorem f108_64 : zf 108 64 = some (.iload_n 2) := cf108_33.2.2.2.2.2.2.2.2.2.2.2.2.2.2.2
theorem cf108_65 : zf 108 65 = some (.invokevirtual 324) ∧ zf 108 68 = some (.ireturn) ∧ zf 108 69 = some (.iinc 3 1) ∧ zf 108 72 = some (.goto (-70)) ∧ zf 108 75 = some (.iconst 0) ∧ zf 108 76 = some (.ireturn) := by decide +kernel
theorem f108_65 : zf 108 65 = some (.invokevirtual 324) := cf108_65.1
theorem f108_68 : zf 108 68 = some (.ireturn) := cf108_65.2.1
theorem f108_69 : zf 108 69 = some (.iinc 3 1) := cf108_65.2.2.1
theorem f108_72 : zf 108 72 = some (.goto (-70)) := cf108_65.2.2.2.1
theorem f108_75 : zf 108 75 = some (.iconst 0) := cf108_65.2.2.2.2.1
theorem f108_76 : zf 108 76 = some (.ireturn) := cf108_65.2.2.2.2.2
theorem cf109_0 : zf 109 0 = some (.aload_n 0) ∧ zf 109 1 = some (.getfield 10) ∧ zf 109 4 = some (.iload_n 1) ∧ zf 109 5 = some (.invokevirtual 89) ∧ zf 109 8 = some (.ifCond .ne 10) ∧ zf 109 11 = some (.aload_n 0) ∧ zf 109 12 = some (.bipush 10) ∧ zf 109 14 = some (.invokevirtual 78) ∧ zf 109 17 = some (.ireturn) ∧ zf 109 18 = some (.aload_n 0) ∧ zf 109 19 = some (.getfield 10) ∧ zf 109 22 = some (.iload_n 1) ∧ zf 109 23 = some (.invokevirtual 112) ∧ zf 109 26 = some (.istore_n 3) ∧ zf 109 27 = some (.iload_n 3) ∧ zf 109 28 = some (.iload_n 2) := by decide +kernel
theorem f109_0 : zf 109 0 = some (.aload_n 0) := cf109_0.1
theorem f109_1 : zf 109 1 = some (.getfield 10) := cf109_0.2.1
theorem f109_4 : zf 109 4 = some (.iload_n 1) := cf109_0.2.2.1
theorem f109_5 : zf 109 5 = some (.invokevirtual 89) := cf109_0.2.2.2.1
theorem f109_8 : zf 109 8 = some (.ifCond .ne 10) := cf109_0.2.2.2.2.1
theorem f109_11 : zf 109 11 = some (.aload_n 0) := cf109_0.2.2.2.2.2.1
theorem f109_12 : zf 109 12 = some (.bipush 10) := cf109_0.2.2.2.2.2.2.1
theorem f109_14 : zf 109 14 = some (.invokevirtual 78) := cf109_0.2.2.2.2.2.2.2.1
theorem f109_17 : zf 109 17 = some (.ireturn) := cf109_0.2.2.2.2.2.2.2.2.1
theorem f109_18 : zf 109 18 = some (.aload_n 0) := cf109_0.2.2.2.2.2.2.2.2.2.1
theorem f109_19 : zf 109 19 = some (.getfield 10) := cf109_0.2.2.2.2.2.2.2.2.2.2.1
theorem f109_22 : zf 109 22 = some (.iload_n 1) := cf109_0.2.2.2.2.2.2.2.2.2.2.2.1
theorem f109_23 : zf 109 23 = some (.invokevirtual 112) := cf109_0.2.2.2.2.2.2.2.2.2.2.2.2.1
theorem f109_26 : zf 109 26 = some (.istore_n 3) := cf109_0.2.2.2.2.2.2.2.2.2.2.2.2.2.1
theorem f109_27 : zf 109 27 = some (.iload_n 3) := cf109_0.2.2.2.2.2.2.2.2.2.2.2.2.2.2.1
theorem f109_28 : zf 109 28 = some (.iload_n 2) := cf109_0.2.2.2.2.2.2.2.2.2.2.2.2.2.2.2
theorem cf109_29 : zf 109 29 = some (.invokestatic 327) ∧ zf 109 32 = some (.ifCond .eq 11) ∧ zf 109 35 = some (.aload_n 0) ∧ zf 109 36 = some (.iload_n 3) ∧ zf 109 37 = some (.invokevirtual 181) ∧ zf 109 40 = some (.goto 9) ∧ zf 109 43 = some (.aload_n 0) ∧ zf 109 44 = some (.bipush 11) ∧ zf 109 46 = some (.invokevirtual 78) ∧ zf 109 49 = some (.ireturn) := by decide +kernel
theorem f109_29 : zf 109 29 = some (.invokestatic 327) := cf109_29.1
theorem f109_32 : zf 109 32 = some (.ifCond .eq 11) := cf109_29.2.1
theorem f109_35 : zf 109 35 = some (.aload_n 0) := cf109_29.2.2.1
theorem f109_36 : zf 109 36 = some (.iload_n 3) := cf109_29.2.2.2.1
theorem f109_37 : zf 109 37 = some (.invokevirtual 181) := cf109_29.2.2.2.2.1
theorem f109_40 : zf 109 40 = some (.goto 9) := cf109_29.2.2.2.2.2.1
theorem f109_43 : zf 109 43 = some (.aload_n 0) := cf109_29.2.2.2.2.2.2.1
theorem f109_44 : zf 109 44 = some (.bipush 11) := cf109_29.2.2.2.2.2.2.2.1
theorem f109_46 : zf 109 46 = some (.invokevirtual 78) := cf109_29.2.2.2.2.2.2.2.2.1
theorem f109_49 : zf 109 49 = some (.ireturn) := cf109_29.2.2.2.2.2.2.2.2.2
theorem cf110_0 : zf 110 0 = some (.iload_n 1) ∧ zf 110 1 = some (.ifCond .lt 26) ∧ zf 110 4 = some (.iload_n 2) ∧ zf 110 5 = some (.ifCond .lt 22) ∧ zf 110 8 = some (.iload_n 1) ∧ zf 110 9 = some (.bipush 6) ∧ zf 110 11 = some (.if_icmp .gt 16) ∧ zf 110 14 = some (.iload_n 2) ∧ zf 110 15 = some (.iload_n 1) ∧ zf 110 16 = some (.iadd) ∧ zf 110 17 = some (.aload_n 0) ∧ zf 110 18 = some (.getfield 10) ∧ zf 110 21 = some (.getfield 250) ∧ zf 110 24 = some (.if_icmp .le 10) ∧ zf 110 27 = some (.aload_n 0) ∧ zf 110 28 = some (.bipush 12) := by decide +kernel
theorem f110_0 : zf 110 0 = some (.iload_n 1) := cf110_0.1
theorem f110_1 : zf 110 1 = some (.ifCond .lt 26) := cf110_0.2.1
theorem f110_4 : zf 110 4 = some (.iload_n 2) := cf110_0.2.2.1
theorem f110_5 : zf 110 5 = some (.ifCond .lt 22) := cf110_0.2.2.2.1
theorem f110_8 : zf 110 8 = some (.iload_n 1) := cf110_0.2.2.2.2.1
theorem f110_9 : zf 110 9 = some (.bipush 6) := cf110_0.2.2.2.2.2.1
theorem f110_11 : zf 110 11 = some (.if_icmp .gt 16) := cf110_0.2.2.2.2.2.2.1
theorem f110_14 : zf 110 14 = some (.iload_n 2) := cf110_0.2.2.2.2.2.2.2.1
theorem f110_15 : zf 110 15 = some (.iload_n 1) := cf110_0.2.2.2.2.2.2.2.2.1
theorem f110_16 : zf 110 16 = some (.iadd) := cf110_0.2.2.2.2.2.2.2.2.2.1
theorem f110_17 : zf 110 17 = some (.aload_n 0) := cf110_0.2.2.2.2.2.2.2.2.2.2.1
theorem f110_18 : zf 110 18 = some (.getfield 10) := cf110_0.2.2.2.2.2.2.2.2.2.2.2.1
theorem f110_21 : zf 110 21 = some (.getfield 250) := cf110_0.2.2.2.2.2.2.2.2.2.2.2.2.1
theorem f110_24 : zf 110 24 = some (.if_icmp .le 10) := cf110_0.2.2.2.2.2.2.2.2.2.2.2.2.2.1
theorem f110_27 : zf 110 27 = some (.aload_n 0) := cf110_0.2.2.2.2.2.2.2.2.2.2.2.2.2.2.1
theorem f110_28 : zf 110 28 = some (.bipush 12) := cf110_0.2.2.2.2.2.2.2.2.2.2.2.2.2.2.2
theorem cf110_30 : zf 110 30 = some (.invokevirtual 78) ∧ zf 110 33 = some (.ireturn) ∧ zf 110 34 = some (.iconst 0) ∧ zf 110 35 = some (.istore_n 3) ∧ zf 110 36 = some (.iconst 0) ∧ zf 110 37 = some (.istore 4) ∧ zf 110 39 = some (.iload 4) ∧ zf 110 41 = some (.iload_n 1) ∧ zf 110 42 = some (.if_icmp .ge 23) ∧ zf 110 45 = some (.iload_n 3) ∧ zf 110 46 = some (.aload_n 0) ∧ zf 110 47 = some (.getfield 10) ∧ zf 110 50 = some (.iload_n 2) ∧ zf 110 51 = some (.iload 4) ∧ zf 110 53 = some (.iadd) ∧ zf 110 54 = some (.invokevirtual 330) := by decide +kernel
theorem f110_30 : zf 110 30 = some (.invokevirtual 78) := cf110_30.1
theorem f110_33 : zf 110 33 = some (.ireturn) := cf110_30.2.1
theorem f110_34 : zf 110 34 = some (.iconst 0) := cf110_30.2.2.1
theorem f110_35 : zf 110 35 = some (.istore_n 3) := cf110_30.2.2.2.1
theorem f110_36 : zf 110 36 = some (.iconst 0) := cf110_30.2.2.2.2.1
theorem f110_37 : zf 110 37 = some (.istore 4) := cf110_30.2.2.2.2.2.1
theorem f110_39 : zf 110 39 = some (.iload 4) := cf110_30.2.2.2.2.2.2.1
theorem f110_41 : zf 110 41 = some (.iload_n 1) := cf110_30.2.2.2.2.2.2.2.1
theorem f110_42 : zf 110 42 = some (.if_icmp .ge 23) := cf110_30.2.2.2.2.2.2.2.2.1
theorem f110_45 : zf 110 45 = some (.iload_n 3) := cf110_30.2.2.2.2.2.2.2.2.2.1
theorem f110_46 : zf 110 46 = some (.aload_n 0) := cf110_30.2.2.2.2.2.2.2.2.2.2.1
theorem f110_47 : zf 110 47 = some (.getfield 10) := cf110_30.2.2.2.2.2.2.2.2.2.2.2.1
theorem f110_50 : zf 110 50 = some (.iload_n 2) := cf110_30.2.2.2.2.2.2.2.2.2.2.2.2.1
theorem f110_51 : zf 110 51 = some (.iload 4) := cf110_30.2.2.2.2.2.2.2.2.2.2.2.2.2.1
theorem f110_53 : zf 110 53 = some (.iadd) := cf110_30.2.2.2.2.2.2.2.2.2.2.2.2.2.2.1
theorem f110_54 : zf 110 54 = some (.invokevirtual 330) := cf110_30.2.2.2.2.2.2.2.2.2.2.2.2.2.2.2
theorem cf110_57 : zf 110 57 = some (.iadd) ∧ zf 110 58 = some (.istore_n 3) ∧ zf 110 59 = some (.iinc 4 1) ∧ zf 110 62 = some (.goto (-23)) ∧ zf 110 65 = some (.aload_n 0) ∧ zf 110 66 = some (.iload_n 3) ∧ zf 110 67 = some (.invokevirtual 181) ∧ zf 110 70 = some (.ireturn) := by decide +kernel
theorem f110_57 : zf 110 57 = some (.iadd) := cf110_57.1
theorem f110_58 : zf 110 58 = some (.istore_n 3) := cf110_57.2.1
theorem f110_59 : zf 110 59 = some (.iinc 4 1) := cf110_57.2.2.1
theorem f110_62 : zf 110 62 = some (.goto (-23)) := cf110_57.2.2.2.1
theorem f110_65 : zf 110 65 = some (.aload_n 0) := cf110_57.2.2.2.2.1
theorem f110_66 : zf 110 66 = some (.iload_n 3) := cf110_57.2.2.2.2.2.1
theorem f110_67 : zf 110 67 = some (.invokevirtual 181) := cf110_57.2.2.2.2.2.2.1
theorem f110_70 : zf 110 70 = some (.ireturn) := cf110_57.2.2.2.2.2.2.2
theorem cf111_0 : zf 111 0 = some (.aload_n 0) ∧ zf 111 1 = some (.getfield 10) ∧ zf 111 4 = some (.iload_n 1) ∧ zf 111 5 = some (.invokevirtual 89) ∧ zf 111 8 = some (.ifCond .ne 9) ∧ zf 111 11 = some (.aload_n 0) ∧ zf 111 12 = some (.iconst 0) ∧ zf 111 13 = some (.invokevirtual 181) ∧ zf 111 16 = some (.ireturn) ∧ zf 111 17 = some (.aload_n 0) ∧ zf 111 18 = some (.getfield 10) ∧ zf 111 21 = some (.iload_n 1) ∧ zf 111 22 = some (.invokevirtual 100) ∧ zf 111 25 = some (.ifCond .eq 18) ∧ zf 111 28 = some (.aload_n 0) ∧ zf 111 29 = some (.aload_n 0) := by decide +kernel
theorem f111_0 : zf 111 0 = some (.aload_n 0) := cf111_0.1
theorem f111_1 : zf 111 1 = some (.getfield 10) := cf111_0.2.1
theorem f111_4 : zf 111 4 = some (.iload_n 1) := cf111_0.2.2.1
theorem f111_5 : zf 111 5 = some (.invokevirtual 89) := cf111_0.2.2.2.1
theorem f111_8 : zf 111 8 = some (.ifCond .ne 9) := cf111_0.2.2.2.2.1
theorem f111_11 : zf 111 11 = some (.aload_n 0) := cf111_0.2.2.2.2.2.1
theorem f111_12 : zf 111 12 = some (.iconst 0) := cf111_0.2.2.2.2.2.2.1
theorem f111_13 : zf 111 13 = some (.invokevirtual 181) := cf111_0.2.2.2.2.2.2.2.1
theorem f111_16 : zf 111 16 = some (.ireturn) := cf111_0.2.2.2.2.2.2.2.2.1
theorem f111_17 : zf 111 17 = some (.aload_n 0) := cf111_0.2.2.2.2.2.2.2.2.2.1
theorem f111_18 : zf 111 18 = some (.getfield 10) := cf111_0.2.2.2.2.2.2.2.2.2.2.1
theorem f111_21 : zf 111 21 = some (.iload_n 1) := cf111_0.2.2.2.2.2.2.2.2.2.2.2.1
theorem f111_22 : zf 111 22 = some (.invokevirtual 100) := cf111_0.2.2.2.2.2.2.2.2.2.2.2.2.1
theorem f111_25 : zf 111 25 = some (.ifCond .eq 18) := cf111_0.2.2.2.2.2.2.2.2.2.2.2.2.2.1
theorem f111_28 : zf 111 28 = some (.aload_n 0) := cf111_0.2.2.2.2.2.2.2.2.2.2.2.2.2.2.1
theorem f111_29 : zf 111 29 = some (.aload_n 0) := cf111_0.2.2.2.2.2.2.2.2.2.2.2.2.2.2.2
theorem cf111_30 : zf 111 30 = some (.getfield 10) ∧ zf 111 33 = some (.iload_n 1) ∧ zf 111 34 = some (.invokevirtual 330) ∧ zf 111 37 = some (.invokevirtual 181) ∧ zf 111 40 = some (.goto 9) ∧ zf 111 43 = some (.aload_n 0) ∧ zf 111 44 = some (.bipush 14) ∧ zf 111 46 = some (.invokevirtual 78) ∧ zf 111 49 = some (.ireturn) := by decide +kernel
theorem f111_30 : zf 111 30 = some (.getfield 10) := cf111_30.1
theorem f111_33 : zf 111 33 = some (.iload_n 1) := cf111_30.2.1
theorem f111_34 : zf 111 34 = some (.invokevirtual 330) := cf111_30.2.2.1
theorem f111_37 : zf 111 37 = some (.invokevirtual 181) := cf111_30.2.2.2.1
theorem f111_40 : zf 111 40 = some (.goto 9) := cf111_30.2.2.2.2.1
theorem f111_43 : zf 111 43 = some (.aload_n 0) := cf111_30.2.2.2.2.2.1
theorem f111_44 : zf 111 44 = some (.bipush 14) := cf111_30.2.2.2.2.2.2.1
theorem f111_46 : zf 111 46 = some (.invokevirtual 78) := cf111_30.2.2.2.2.2.2.2.1
theorem f111_49 : zf 111 49 = some (.ireturn) := cf111_30.2.2.2.2.2.2.2.2
theorem cf112_0 : zf 112 0 = some (.iload_n 0) ∧ zf 112 1 = some (.iload_n 1) ∧ zf 112 2 = some (.if_icmp .lt 12) ∧ zf 112 5 = some (.iload_n 0) ∧ zf 112 6 = some (.iload_n 2) ∧ zf 112 7 = some (.if_icmp .gt 7) ∧ zf 112 10 = some (.iconst 1) ∧ zf 112 11 = some (.goto 4) ∧ zf 112 14 = some (.iconst 0) ∧ zf 112 15 = some (.ireturn) := by decide +kernel
theorem f112_0 : zf 112 0 = some (.iload_n 0) := cf112_0.1
theorem f112_1 : zf 112 1 = some (.iload_n 1) := cf112_0.2.1
theorem f112_2 : zf 112 2 = some (.if_icmp .lt 12) := cf112_0.2.2.1
theorem f112_5 : zf 112 5 = some (.iload_n 0) := cf112_0.2.2.2.1
theorem f112_6 : zf 112 6 = some (.iload_n 2) := cf112_0.2.2.2.2.1
theorem f112_7 : zf 112 7 = some (.if_icmp .gt 7) := cf112_0.2.2.2.2.2.1
theorem f112_10 : zf 112 10 = some (.iconst 1) := cf112_0.2.2.2.2.2.2.1
theorem f112_11 : zf 112 11 = some (.goto 4) := cf112_0.2.2.2.2.2.2.2.1
theorem f112_14 : zf 112 14 = some (.iconst 0) := cf112_0.2.2.2.2.2.2.2.2.1
theorem f112_15 : zf 112 15 = some (.ireturn) := cf112_0.2.2.2.2.2.2.2.2.2
theorem cf113_0 : zf 113 0 = some (.iload_n 0) ∧ zf 113 1 = some (.ifCond .eq 7) ∧ zf 113 4 = some (.iconst 1) ∧ zf 113 5 = some (.goto 4) ∧ zf 113 8 = some (.iconst 0) ∧ zf 113 9 = some (.ireturn) := by decide +kernel
theorem f113_0 : zf 113 0 = some (.iload_n 0) := cf113_0.1
theorem f113_1 : zf 113 1 = some (.ifCond .eq 7) := cf113_0.2.1
theorem f113_4 : zf 113 4 = some (.iconst 1) := cf113_0.2.2.1
theorem f113_5 : zf 113 5 = some (.goto 4) := cf113_0.2.2.2.1
theorem f113_8 : zf 113 8 = some (.iconst 0) := cf113_0.2.2.2.2.1
theorem f113_9 : zf 113 9 = some (.ireturn) := cf113_0.2.2.2.2.2
theorem cf114_0 : zf 114 0 = some (.iload_n 0) ∧ zf 114 1 = some (.istore_n 2) ∧ zf 114 2 = some (.iconst 0) ∧ zf 114 3 = some (.istore_n 3) ∧ zf 114 4 = some (.iload_n 3) ∧ zf 114 5 = some (.iconst 5) ∧ zf 114 6 = some (.if_icmp .ge 31) ∧ zf 114 9 = some (.iload_n 2) ∧ zf 114 10 = some (.iconst 0) ∧ zf 114 11 = some (.iconst 4) ∧ zf 114 12 = some (.invokestatic 74) ∧ zf 114 15 = some (.ifCond .eq 22) ∧ zf 114 18 = some (.iload_n 2) ∧ zf 114 19 = some (.iload_n 1) ∧ zf 114 20 = some (.if_icmp .ne 5) ∧ zf 114 23 = some (.iconst 1) := by decide +kernel
theorem f114_0 : zf 114 0 = some (.iload_n 0) := cf114_0.1
theorem f114_1 : zf 114 1 = some (.istore_n 2) := cf114_0.2.1
theorem f114_2 : zf 114 2 = some (.iconst 0) := cf114_0.2.2.1
theorem f114_3 : zf 114 3 = some (.istore_n 3) := cf114_0.2.2.2.1
theorem f114_4 : zf 114 4 = some (.iload_n 3) := cf114_0.2.2.2.2.1
theorem f114_5 : zf 114 5 = some (.iconst 5) := cf114_0.2.2.2.2.2.1
theorem f114_6 : zf 114 6 = some (.if_icmp .ge 31) := cf114_0.2.2.2.2.2.2.1
theorem f114_9 : zf 114 9 = some (.iload_n 2) := cf114_0.2.2.2.2.2.2.2.1
theorem f114_10 : zf 114 10 = some (.iconst 0) := cf114_0.2.2.2.2.2.2.2.2.1
theorem f114_11 : zf 114 11 = some (.iconst 4) := cf114_0.2.2.2.2.2.2.2.2.2.1
theorem f114_12 : zf 114 12 = some (.invokestatic 74) := cf114_0.2.2.2.2.2.2.2.2.2.2.1
theorem f114_15 : zf 114 15 = some (.ifCond .eq 22) := cf114_0.2.2.2.2.2.2.2.2.2.2.2.1
theorem f114_18 : zf 114 18 = some (.iload_n 2) := cf114_0.2.2.2.2.2.2.2.2.2.2.2.2.1
theorem f114_19 : zf 114 19 = some (.iload_n 1) := cf114_0.2.2.2.2.2.2.2.2.2.2.2.2.2.1
theorem f114_20 : zf 114 20 = some (.if_icmp .ne 5) := cf114_0.2.2.2.2.2.2.2.2.2.2.2.2.2.2.1
theorem f114_23 : zf 114 23 = some (.iconst 1) := cf114_0.2.2.2.2.2.2.2.2.2.2.2.2.2.2.2
theorem cf114_24 : zf 114 24 = some (.ireturn) ∧ zf 114 25 = some (.getstatic 333) ∧ zf 114 28 = some (.iload_n 2) ∧ zf 114 29 = some (.iaload) ∧ zf 114 30 = some (.istore_n 2) ∧ zf 114 31 = some (.iinc 3 1) ∧ zf 114 34 = some (.goto (-30)) ∧ zf 114 37 = some (.iconst 0) ∧ zf 114 38 = some (.ireturn) := by decide +kernel
theorem f114_24 : zf 114 24 = some (.ireturn) := cf114_24.1
theorem f114_25 : zf 114 25 = some (.getstatic 333) := cf114_24.2.1
theorem f114_28 : zf 114 28 = some (.iload_n 2) := cf114_24.2.2.1
theorem f114_29 : zf 114 29 = some (.iaload) := cf114_24.2.2.2.1
theorem f114_30 : zf 114 30 = some (.istore_n 2) := cf114_24.2.2.2.2.1
theorem f114_31 : zf 114 31 = some (.iinc 3 1) := cf114_24.2.2.2.2.2.1
theorem f114_34 : zf 114 34 = some (.goto (-30)) := cf114_24.2.2.2.2.2.2.1
theorem f114_37 : zf 114 37 = some (.iconst 0) := cf114_24.2.2.2.2.2.2.2.1
theorem f114_38 : zf 114 38 = some (.ireturn) := cf114_24.2.2.2.2.2.2.2.2
theorem cf115_0 : zf 115 0 = some (.lload_n 0) ∧ zf 115 1 = some (.lstore 4) ∧ zf 115 3 = some (.lload_n 2) ∧ zf 115 4 = some (.lstore 6) ∧ zf 115 6 = some (.iconst 0) ∧ zf 115 7 = some (.istore 8) ∧ zf 115 9 = some (.iload 8) ∧ zf 115 11 = some (.sipush 200) ∧ zf 115 14 = some (.if_icmp .ge 31) ∧ zf 115 17 = some (.lload 6) ∧ zf 115 19 = some (.lconst 0) ∧ zf 115 20 = some (.lcmp) ∧ zf 115 21 = some (.ifCond .eq 24) ∧ zf 115 24 = some (.lload 4) ∧ zf 115 26 = some (.lload 6) ∧ zf 115 28 = some (.lrem) := by decide +kernel
theorem f115_0 : zf 115 0 = some (.lload_n 0) := cf115_0.1
theorem f115_1 : zf 115 1 = some (.lstore 4) := cf115_0.2.1
theorem f115_3 : zf 115 3 = some (.lload_n 2) := cf115_0.2.2.1
theorem f115_4 : zf 115 4 = some (.lstore 6) := cf115_0.2.2.2.1
theorem f115_6 : zf 115 6 = some (.iconst 0) := cf115_0.2.2.2.2.1
theorem f115_7 : zf 115 7 = some (.istore 8) := cf115_0.2.2.2.2.2.1
theorem f115_9 : zf 115 9 = some (.iload 8) := cf115_0.2.2.2.2.2.2.1
theorem f115_11 : zf 115 11 = some (.sipush 200) := cf115_0.2.2.2.2.2.2.2.1
theorem f115_14 : zf 115 14 = some (.if_icmp .ge 31) := cf115_0.2.2.2.2.2.2.2.2.1
theorem f115_17 : zf 115 17 = some (.lload 6) := cf115_0.2.2.2.2.2.2.2.2.2.1
theorem f115_19 : zf 115 19 = some (.lconst 0) := cf115_0.2.2.2.2.2.2.2.2.2.2.1
theorem f115_20 : zf 115 20 = some (.lcmp) := cf115_0.2.2.2.2.2.2.2.2.2.2.2.1
theorem f115_21 : zf 115 21 = some (.ifCond .eq 24) := cf115_0.2.2.2.2.2.2.2.2.2.2.2.2.1
theorem f115_24 : zf 115 24 = some (.lload 4) := cf115_0.2.2.2.2.2.2.2.2.2.2.2.2.2.1
theorem f115_26 : zf 115 26 = some (.lload 6) := cf115_0.2.2.2.2.2.2.2.2.2.2.2.2.2.2.1
theorem f115_28 : zf 115 28 = some (.lrem) := cf115_0.2.2.2.2.2.2.2.2.2.2.2.2.2.2.2
theorem cf115_29 : zf 115 29 = some (.lstore 9) ∧ zf 115 31 = some (.lload 6) ∧ zf 115 33 = some (.lstore 4) ∧ zf 115 35 = some (.lload 9) ∧ zf 115 37 = some (.lstore 6) ∧ zf 115 39 = some (.iinc 8 1) ∧ zf 115 42 = some (.goto (-33)) ∧ zf 115 45 = some (.lload 4) ∧ zf 115 47 = some (.lconst 0) ∧ zf 115 48 = some (.lcmp) ∧ zf 115 49 = some (.ifCond .ne 7) ∧ zf 115 52 = some (.lconst 1) ∧ zf 115 53 = some (.goto 5) ∧ zf 115 56 = some (.lload 4) ∧ zf 115 58 = some (.lreturn) := by decide +kernel
theorem f115_29 : zf 115 29 = some (.lstore 9) := cf115_29.1
theorem f115_31 : zf 115 31 = some (.lload 6) := cf115_29.2.1
theorem f115_33 : zf 115 33 = some (.lstore 4) := cf115_29.2.2.1
theorem f115_35 : zf 115 35 = some (.lload 9) := cf115_29.2.2.2.1
theorem f115_37 : zf 115 37 = some (.lstore 6) := cf115_29.2.2.2.2.1
theorem f115_39 : zf 115 39 = some (.iinc 8 1) := cf115_29.2.2.2.2.2.1
theorem f115_42 : zf 115 42 = some (.goto (-33)) := cf115_29.2.2.2.2.2.2.1
theorem f115_45 : zf 115 45 = some (.lload 4) := cf115_29.2.2.2.2.2.2.2.1
theorem f115_47 : zf 115 47 = some (.lconst 0) := cf115_29.2.2.2.2.2.2.2.2.1
theorem f115_48 : zf 115 48 = some (.lcmp) := cf115_29.2.2.2.2.2.2.2.2.2.1
theorem f115_49 : zf 115 49 = some (.ifCond .ne 7) := cf115_29.2.2.2.2.2.2.2.2.2.2.1
theorem f115_52 : zf 115 52 = some (.lconst 1) := cf115_29.2.2.2.2.2.2.2.2.2.2.2.1
theorem f115_53 : zf 115 53 = some (.goto 5) := cf115_29.2.2.2.2.2.2.2.2.2.2.2.2.1
theorem f115_56 : zf 115 56 = some (.lload 4) := cf115_29.2.2.2.2.2.2.2.2.2.2.2.2.2.1
theorem f115_58 : zf 115 58 = some (.lreturn) := cf115_29.2.2.2.2.2.2.2.2.2.2.2.2.2.2
theorem cf116_0 : zf 116 0 = some (.lload_n 0) ∧ zf 116 1 = some (.lload_n 2) ∧ zf 116 2 = some (.invokestatic 336) ∧ zf 116 5 = some (.lstore 4) ∧ zf 116 7 = some (.lload 4) ∧ zf 116 9 = some (.lconst 0) ∧ zf 116 10 = some (.lcmp) ∧ zf 116 11 = some (.ifCond .ne 7) ∧ zf 116 14 = some (.lload_n 0) ∧ zf 116 15 = some (.goto 7) ∧ zf 116 18 = some (.lload_n 0) ∧ zf 116 19 = some (.lload 4) ∧ zf 116 21 = some (.ldiv) ∧ zf 116 22 = some (.lreturn) := by decide +kernel
theorem f116_0 : zf 116 0 = some (.lload_n 0) := cf116_0.1
theorem f116_1 : zf 116 1 = some (.lload_n 2) := cf116_0.2.1
theorem f116_2 : zf 116 2 = some (.invokestatic 336) := cf116_0.2.2.1
theorem f116_5 : zf 116 5 = some (.lstore 4) := cf116_0.2.2.2.1
theorem f116_7 : zf 116 7 = some (.lload 4) := cf116_0.2.2.2.2.1
theorem f116_9 : zf 116 9 = some (.lconst 0) := cf116_0.2.2.2.2.2.1
theorem f116_10 : zf 116 10 = some (.lcmp) := cf116_0.2.2.2.2.2.2.1
theorem f116_11 : zf 116 11 = some (.ifCond .ne 7) := cf116_0.2.2.2.2.2.2.2.1
theorem f116_14 : zf 116 14 = some (.lload_n 0) := cf116_0.2.2.2.2.2.2.2.2.1
theorem f116_15 : zf 116 15 = some (.goto 7) := cf116_0.2.2.2.2.2.2.2.2.2.1
theorem f116_18 : zf 116 18 = some (.lload_n 0) := cf116_0.2.2.2.2.2.2.2.2.2.2.1
theorem f116_19 : zf 116 19 = some (.lload 4) := cf116_0.2.2.2.2.2.2.2.2.2.2.2.1
theorem f116_21 : zf 116 21 = some (.ldiv) := cf116_0.2.2.2.2.2.2.2.2.2.2.2.2.1
theorem f116_22 : zf 116 22 = some (.lreturn) := cf116_0.2.2.2.2.2.2.2.2.2.2.2.2.2
theorem cf117_0 : zf 117 0 = some (.lload_n 0) ∧ zf 117 1 = some (.lload_n 2) ∧ zf 117 2 = some (.invokestatic 336) ∧ zf 117 5 = some (.lstore 4) ∧ zf 117 7 = some (.lload 4) ∧ zf 117 9 = some (.lconst 0) ∧ zf 117 10 = some (.lcmp) ∧ zf 117 11 = some (.ifCond .ne 7) ∧ zf 117 14 = some (.lload_n 2) ∧ zf 117 15 = some (.goto 7) ∧ zf 117 18 = some (.lload_n 2) ∧ zf 117 19 = some (.lload 4) ∧ zf 117 21 = some (.ldiv) ∧ zf 117 22 = some (.lreturn) := by decide +kernel
theorem f117_0 : zf 117 0 = some (.lload_n 0) := cf117_0.1
theorem f117_1 : zf 117 1 = some (.lload_n 2) := cf117_0.2.1
theorem f117_2 : zf 117 2 = some (.invokestatic 336) := cf117_0.2.2.1
theorem f117_5 : zf 117 5 = some (.lstore 4) := cf117_0.2.2.2.1
theorem f117_7 : zf 117 7 = some (.lload 4) := cf117_0.2.2.2.2.1
theorem f117_9 : zf 117 9 = some (.lconst 0) := cf117_0.2.2.2.2.2.1
theorem f117_10 : zf 117 10 = some (.lcmp) := cf117_0.2.2.2.2.2.2.1
theorem f117_11 : zf 117 11 = some (.ifCond .ne 7) := cf117_0.2.2.2.2.2.2.2.1
theorem f117_14 : zf 117 14 = some (.lload_n 2) := cf117_0.2.2.2.2.2.2.2.2.1
theorem f117_15 : zf 117 15 = some (.goto 7) := cf117_0.2.2.2.2.2.2.2.2.2.1
theorem f117_18 : zf 117 18 = some (.lload_n 2) := cf117_0.2.2.2.2.2.2.2.2.2.2.1
theorem f117_19 : zf 117 19 = some (.lload 4) := cf117_0.2.2.2.2.2.2.2.2.2.2.2.1
theorem f117_21 : zf 117 21 = some (.ldiv) := cf117_0.2.2.2.2.2.2.2.2.2.2.2.2.1
theorem f117_22 : zf 117 22 = some (.lreturn) := cf117_0.2.2.2.2.2.2.2.2.2.2.2.2.2
theorem cf118_0 : zf 118 0 = some (.iload 4) ∧ zf 118 2 = some (.ifCond .ne 11) ∧ zf 118 5 = some (.lload_n 0) ∧ zf 118 6 = some (.lload_n 2) ∧ zf 118 7 = some (.invokestatic 194) ∧ zf 118 10 = some (.goto 8) ∧ zf 118 13 = some (.lload_n 0) ∧ zf 118 14 = some (.lload_n 2) ∧ zf 118 15 = some (.invokestatic 198) ∧ zf 118 18 = some (.lreturn) := by decide +kernel
theorem f118_0 : zf 118 0 = some (.iload 4) := cf118_0.1
theorem f118_2 : zf 118 2 = some (.ifCond .ne 11) := cf118_0.2.1
theorem f118_5 : zf 118 5 = some (.lload_n 0) := cf118_0.2.2.1
theorem f118_6 : zf 118 6 = some (.lload_n 2) := cf118_0.2.2.2.1
theorem f118_7 : zf 118 7 = some (.invokestatic 194) := cf118_0.2.2.2.2.1
theorem f118_10 : zf 118 10 = some (.goto 8) := cf118_0.2.2.2.2.2.1
theorem f118_13 : zf 118 13 = some (.lload_n 0) := cf118_0.2.2.2.2.2.2.1
theorem f118_14 : zf 118 14 = some (.lload_n 2) := cf118_0.2.2.2.2.2.2.2.1
theorem f118_15 : zf 118 15 = some (.invokestatic 198) := cf118_0.2.2.2.2.2.2.2.2.1
theorem f118_18 : zf 118 18 = some (.lreturn) := cf118_0.2.2.2.2.2.2.2.2.2
