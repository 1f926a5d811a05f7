theorem cf0_0 : zf 0 0 = some (.aload_n 0) ∧ zf 0 1 = some (.invokespecial 3) ∧ zf 0 4 = some (.aload_n 0) ∧ zf 0 5 = some (.bipush 50) ∧ zf 0 7 = some (.newarray .int) ∧ zf 0 9 = some (.putfield 9) ∧ zf 0 12 = some (.return_) := by decide +kernel
theorem f0_0 : zf 0 0 = some (.aload_n 0) := cf0_0.1
theorem f0_1 : zf 0 1 = some (.invokespecial 3) := cf0_0.2.1
theorem f0_4 : zf 0 4 = some (.aload_n 0) := cf0_0.2.2.1
theorem f0_5 : zf 0 5 = some (.bipush 50) := cf0_0.2.2.2.1
theorem f0_7 : zf 0 7 = some (.newarray .int) := cf0_0.2.2.2.2.1
theorem f0_9 : zf 0 9 = some (.putfield 9) := cf0_0.2.2.2.2.2.1
theorem f0_12 : zf 0 12 = some (.return_) := cf0_0.2.2.2.2.2.2
theorem cf1_0 : zf 1 0 = some (.aload_n 0) ∧ zf 1 1 = some (.iconst 0) ∧ zf 1 2 = some (.putfield 15) ∧ zf 1 5 = some (.aload_n 1) ∧ zf 1 6 = some (.iload_n 3) ∧ zf 1 7 = some (.invokevirtual 19) ∧ zf 1 10 = some (.ifCond .eq 43) ∧ zf 1 13 = some (.aload_n 0) ∧ zf 1 14 = some (.aload_n 1) ∧ zf 1 15 = some (.getfield 25) ∧ zf 1 18 = some (.iload_n 3) ∧ zf 1 19 = some (.iaload) ∧ zf 1 20 = some (.putfield 28) ∧ zf 1 23 = some (.aload_n 0) ∧ zf 1 24 = some (.aload_n 1) ∧ zf 1 25 = some (.getfield 31) := by decide +kernel
theorem f1_0 : zf 1 0 = some (.aload_n 0) := cf1_0.1
theorem f1_1 : zf 1 1 = some (.iconst 0) := cf1_0.2.1
theorem f1_2 : zf 1 2 = some (.putfield 15) := cf1_0.2.2.1
theorem f1_5 : zf 1 5 = some (.aload_n 1) := cf1_0.2.2.2.1
theorem f1_6 : zf 1 6 = some (.iload_n 3) := cf1_0.2.2.2.2.1
theorem f1_7 : zf 1 7 = some (.invokevirtual 19) := cf1_0.2.2.2.2.2.1
theorem f1_10 : zf 1 10 = some (.ifCond .eq 43) := cf1_0.2.2.2.2.2.2.1
theorem f1_13 : zf 1 13 = some (.aload_n 0) := cf1_0.2.2.2.2.2.2.2.1
theorem f1_14 : zf 1 14 = some (.aload_n 1) := cf1_0.2.2.2.2.2.2.2.2.1
theorem f1_15 : zf 1 15 = some (.getfield 25) := cf1_0.2.2.2.2.2.2.2.2.2.1
theorem f1_18 : zf 1 18 = some (.iload_n 3) := cf1_0.2.2.2.2.2.2.2.2.2.2.1
theorem f1_19 : zf 1 19 = some (.iaload) := cf1_0.2.2.2.2.2.2.2.2.2.2.2.1
theorem f1_20 : zf 1 20 = some (.putfield 28) := cf1_0.2.2.2.2.2.2.2.2.2.2.2.2.1
theorem f1_23 : zf 1 23 = some (.aload_n 0) := cf1_0.2.2.2.2.2.2.2.2.2.2.2.2.2.1
theorem f1_24 : zf 1 24 = some (.aload_n 1) := cf1_0.2.2.2.2.2.2.2.2.2.2.2.2.2.2.1
theorem f1_25 : zf 1 25 = some (.getfield 31) := cf1_0.2.2.2.2.2.2.2.2.2.2.2.2.2.2.2
theorem cf1_28 : zf 1 28 = some (.iload_n 3) ∧ zf 1 29 = some (.iaload) ∧ zf 1 30 = some (.putfield 34) ∧ zf 1 33 = some (.aload_n 0) ∧ zf 1 34 = some (.aload_n 1) ∧ zf 1 35 = some (.getfield 37) ∧ zf 1 38 = some (.iload_n 3) ∧ zf 1 39 = some (.iaload) ∧ zf 1 40 = some (.putfield 40) ∧ zf 1 43 = some (.aload_n 0) ∧ zf 1 44 = some (.aload_n 2) ∧ zf 1 45 = some (.getfield 43) ∧ zf 1 48 = some (.iload_n 3) ∧ zf 1 49 = some (.iaload) ∧ zf 1 50 = some (.putfield 48) ∧ zf 1 53 = some (.return_) := by decide +kernel
theorem f1_28 : zf 1 28 = some (.iload_n 3) := cf1_28.1
theorem f1_29 : zf 1 29 = some (.iaload) := cf1_28.2.1
theorem f1_30 : zf 1 30 = some (.putfield 34) := cf1_28.2.2.1
theorem f1_33 : zf 1 33 = some (.aload_n 0) := cf1_28.2.2.2.1
theorem f1_34 : zf 1 34 = some (.aload_n 1) := cf1_28.2.2.2.2.1
theorem f1_35 : zf 1 35 = some (.getfield 37) := cf1_28.2.2.2.2.2.1
theorem f1_38 : zf 1 38 = some (.iload_n 3) := cf1_28.2.2.2.2.2.2.1
theorem f1_39 : zf 1 39 = some (.iaload) := cf1_28.2.2.2.2.2.2.2.1
theorem f1_40 : zf 1 40 = some (.putfield 40) := cf1_28.2.2.2.2.2.2.2.2.1
theorem f1_43 : zf 1 43 = some (.aload_n 0) := cf1_28.2.2.2.2.2.2.2.2.2.1
theorem f1_44 : zf 1 44 = some (.aload_n 2) := cf1_28.2.2.2.2.2.2.2.2.2.2.1
theorem f1_45 : zf 1 45 = some (.getfield 43) := cf1_28.2.2.2.2.2.2.2.2.2.2.2.1
theorem f1_48 : zf 1 48 = some (.iload_n 3) := cf1_28.2.2.2.2.2.2.2.2.2.2.2.2.1
theorem f1_49 : zf 1 49 = some (.iaload) := cf1_28.2.2.2.2.2.2.2.2.2.2.2.2.2.1
theorem f1_50 : zf 1 50 = some (.putfield 48) := cf1_28.2.2.2.2.2.2.2.2.2.2.2.2.2.2.1
theorem f1_53 : zf 1 53 = some (.return_) := cf1_28.2.2.2.2.2.2.2.2.2.2.2.2.2.2.2
theorem cf2_0 : zf 2 0 = some (.aload_n 0) ∧ zf 2 1 = some (.getfield 15) ∧ zf 2 4 = some (.bipush 50) ∧ zf 2 6 = some (.if_icmp .ge 23) ∧ zf 2 9 = some (.aload_n 0) ∧ zf 2 10 = some (.getfield 9) ∧ zf 2 13 = some (.aload_n 0) ∧ zf 2 14 = some (.getfield 15) ∧ zf 2 17 = some (.iload_n 1) ∧ zf 2 18 = some (.iastore) ∧ zf 2 19 = some (.aload_n 0) ∧ zf 2 20 = some (.dup) ∧ zf 2 21 = some (.getfield 15) ∧ zf 2 24 = some (.iconst 1) ∧ zf 2 25 = some (.iadd) ∧ zf 2 26 = some (.putfield 15) := by decide +kernel
theorem f2_0 : zf 2 0 = some (.aload_n 0) := cf2_0.1
theorem f2_1 : zf 2 1 = some (.getfield 15) := cf2_0.2.1
theorem f2_4 : zf 2 4 = some (.bipush 50) := cf2_0.2.2.1
theorem f2_6 : zf 2 6 = some (.if_icmp .ge 23) := cf2_0.2.2.2.1
theorem f2_9 : zf 2 9 = some (.aload_n 0) := cf2_0.2.2.2.2.1
theorem f2_10 : zf 2 10 = some (.getfield 9) := cf2_0.2.2.2.2.2.1
theorem f2_13 : zf 2 13 = some (.aload_n 0) := cf2_0.2.2.2.2.2.2.1
theorem f2_14 : zf 2 14 = some (.getfield 15) := cf2_0.2.2.2.2.2.2.2.1
theorem f2_17 : zf 2 17 = some (.iload_n 1) := cf2_0.2.2.2.2.2.2.2.2.1
theorem f2_18 : zf 2 18 = some (.iastore) := cf2_0.2.2.2.2.2.2.2.2.2.1
theorem f2_19 : zf 2 19 = some (.aload_n 0) := cf2_0.2.2.2.2.2.2.2.2.2.2.1
theorem f2_20 : zf 2 20 = some (.dup) := cf2_0.2.2.2.2.2.2.2.2.2.2.2.1
theorem f2_21 : zf 2 21 = some (.getfield 15) := cf2_0.2.2.2.2.2.2.2.2.2.2.2.2.1
theorem f2_24 : zf 2 24 = some (.iconst 1) := cf2_0.2.2.2.2.2.2.2.2.2.2.2.2.2.1
theorem f2_25 : zf 2 25 = some (.iadd) := cf2_0.2.2.2.2.2.2.2.2.2.2.2.2.2.2.1
theorem f2_26 : zf 2 26 = some (.putfield 15) := cf2_0.2.2.2.2.2.2.2.2.2.2.2.2.2.2.2
theorem f2_29 : zf 2 29 = some (.return_) := by decide +kernel
theorem cf3_0 : zf 3 0 = some (.aload_n 0) ∧ zf 3 1 = some (.aload_n 1) ∧ zf 3 2 = some (.invokespecial 1) ∧ zf 3 5 = some (.return_) := by decide +kernel
theorem f3_0 : zf 3 0 = some (.aload_n 0) := cf3_0.1
theorem f3_1 : zf 3 1 = some (.aload_n 1) := cf3_0.2.1
theorem f3_2 : zf 3 2 = some (.invokespecial 1) := cf3_0.2.2.1
theorem f3_5 : zf 3 5 = some (.return_) := cf3_0.2.2.2
theorem cf4_0 : zf 4 0 = some (.aload_n 0) ∧ zf 4 1 = some (.getfield 7) ∧ zf 4 4 = some (.bipush 50) ∧ zf 4 6 = some (.invokevirtual 13) ∧ zf 4 9 = some (.aload_n 0) ∧ zf 4 10 = some (.iload_n 1) ∧ zf 4 11 = some (.invokespecial 19) ∧ zf 4 14 = some (.aload_n 0) ∧ zf 4 15 = some (.getfield 7) ∧ zf 4 18 = some (.getfield 23) ∧ zf 4 21 = some (.iadd) ∧ zf 4 22 = some (.ireturn) := by decide +kernel
theorem f4_0 : zf 4 0 = some (.aload_n 0) := cf4_0.1
theorem f4_1 : zf 4 1 = some (.getfield 7) := cf4_0.2.1
theorem f4_4 : zf 4 4 = some (.bipush 50) := cf4_0.2.2.1
theorem f4_6 : zf 4 6 = some (.invokevirtual 13) := cf4_0.2.2.2.1
theorem f4_9 : zf 4 9 = some (.aload_n 0) := cf4_0.2.2.2.2.1
theorem f4_10 : zf 4 10 = some (.iload_n 1) := cf4_0.2.2.2.2.2.1
theorem f4_11 : zf 4 11 = some (.invokespecial 19) := cf4_0.2.2.2.2.2.2.1
theorem f4_14 : zf 4 14 = some (.aload_n 0) := cf4_0.2.2.2.2.2.2.2.1
theorem f4_15 : zf 4 15 = some (.getfield 7) := cf4_0.2.2.2.2.2.2.2.2.1
theorem f4_18 : zf 4 18 = some (.getfield 23) := cf4_0.2.2.2.2.2.2.2.2.2.1
theorem f4_21 : zf 4 21 = some (.iadd) := cf4_0.2.2.2.2.2.2.2.2.2.2.1
theorem f4_22 : zf 4 22 = some (.ireturn) := cf4_0.2.2.2.2.2.2.2.2.2.2.2
theorem cf5_0 : zf 5 0 = some (.aload_n 0) ∧ zf 5 1 = some (.getfield 7) ∧ zf 5 4 = some (.bipush 51) ∧ zf 5 6 = some (.invokevirtual 13) ∧ zf 5 9 = some (.aload_n 0) ∧ zf 5 10 = some (.iload_n 1) ∧ zf 5 11 = some (.invokespecial 27) ∧ zf 5 14 = some (.aload_n 0) ∧ zf 5 15 = some (.getfield 7) ∧ zf 5 18 = some (.getfield 23) ∧ zf 5 21 = some (.ixor) ∧ zf 5 22 = some (.ireturn) := by decide +kernel
theorem f5_0 : zf 5 0 = some (.aload_n 0) := cf5_0.1
theorem f5_1 : zf 5 1 = some (.getfield 7) := cf5_0.2.1
theorem f5_4 : zf 5 4 = some (.bipush 51) := cf5_0.2.2.1
theorem f5_6 : zf 5 6 = some (.invokevirtual 13) := cf5_0.2.2.2.1
theorem f5_9 : zf 5 9 = some (.aload_n 0) := cf5_0.2.2.2.2.1
theorem f5_10 : zf 5 10 = some (.iload_n 1) := cf5_0.2.2.2.2.2.1
theorem f5_11 : zf 5 11 = some (.invokespecial 27) := cf5_0.2.2.2.2.2.2.1
theorem f5_14 : zf 5 14 = some (.aload_n 0) := cf5_0.2.2.2.2.2.2.2.1
theorem f5_15 : zf 5 15 = some (.getfield 7) := cf5_0.2.2.2.2.2.2.2.2.1
theorem f5_18 : zf 5 18 = some (.getfield 23) := cf5_0.2.2.2.2.2.2.2.2.2.1
theorem f5_21 : zf 5 21 = some (.ixor) := cf5_0.2.2.2.2.2.2.2.2.2.2.1
theorem f5_22 : zf 5 22 = some (.ireturn) := cf5_0.2.2.2.2.2.2.2.2.2.2.2
theorem cf6_0 : zf 6 0 = some (.aload_n 0) ∧ zf 6 1 = some (.aload_n 1) ∧ zf 6 2 = some (.invokespecial 1) ∧ zf 6 5 = some (.return_) := by decide +kernel
theorem f6_0 : zf 6 0 = some (.aload_n 0) := cf6_0.1
theorem f6_1 : zf 6 1 = some (.aload_n 1) := cf6_0.2.1
theorem f6_2 : zf 6 2 = some (.invokespecial 1) := cf6_0.2.2.1
theorem f6_5 : zf 6 5 = some (.return_) := cf6_0.2.2.2
theorem cf7_0 : zf 7 0 = some (.aload_n 0) ∧ zf 7 1 = some (.getfield 7) ∧ zf 7 4 = some (.bipush 40) ∧ zf 7 6 = some (.invokevirtual 13) ∧ zf 7 9 = some (.aload_n 0) ∧ zf 7 10 = some (.iload_n 1) ∧ zf 7 11 = some (.invokespecial 19) ∧ zf 7 14 = some (.aload_n 0) ∧ zf 7 15 = some (.getfield 7) ∧ zf 7 18 = some (.getfield 23) ∧ zf 7 21 = some (.iadd) ∧ zf 7 22 = some (.ireturn) := by decide +kernel
theorem f7_0 : zf 7 0 = some (.aload_n 0) := cf7_0.1
theorem f7_1 : zf 7 1 = some (.getfield 7) := cf7_0.2.1
theorem f7_4 : zf 7 4 = some (.bipush 40) := cf7_0.2.2.1
theorem f7_6 : zf 7 6 = some (.invokevirtual 13) := cf7_0.2.2.2.1
theorem f7_9 : zf 7 9 = some (.aload_n 0) := cf7_0.2.2.2.2.1
theorem f7_10 : zf 7 10 = some (.iload_n 1) := cf7_0.2.2.2.2.2.1
theorem f7_11 : zf 7 11 = some (.invokespecial 19) := cf7_0.2.2.2.2.2.2.1
theorem f7_14 : zf 7 14 = some (.aload_n 0) := cf7_0.2.2.2.2.2.2.2.1
theorem f7_15 : zf 7 15 = some (.getfield 7) := cf7_0.2.2.2.2.2.2.2.2.1
theorem f7_18 : zf 7 18 = some (.getfield 23) := cf7_0.2.2.2.2.2.2.2.2.2.1
theorem f7_21 : zf 7 21 = some (.iadd) := cf7_0.2.2.2.2.2.2.2.2.2.2.1
theorem f7_22 : zf 7 22 = some (.ireturn) := cf7_0.2.2.2.2.2.2.2.2.2.2.2
theorem cf8_0 : zf 8 0 = some (.aload_n 0) ∧ zf 8 1 = some (.getfield 7) ∧ zf 8 4 = some (.bipush 41) ∧ zf 8 6 = some (.invokevirtual 13) ∧ zf 8 9 = some (.aload_n 0) ∧ zf 8 10 = some (.iload_n 1) ∧ zf 8 11 = some (.aload_n 0) ∧ zf 8 12 = some (.getfield 7) ∧ zf 8 15 = some (.getfield 27) ∧ zf 8 18 = some (.iadd) ∧ zf 8 19 = some (.invokespecial 30) ∧ zf 8 22 = some (.ireturn) := by decide +kernel
theorem f8_0 : zf 8 0 = some (.aload_n 0) := cf8_0.1
theorem f8_1 : zf 8 1 = some (.getfield 7) := cf8_0.2.1
theorem f8_4 : zf 8 4 = some (.bipush 41) := cf8_0.2.2.1
theorem f8_6 : zf 8 6 = some (.invokevirtual 13) := cf8_0.2.2.2.1
theorem f8_9 : zf 8 9 = some (.aload_n 0) := cf8_0.2.2.2.2.1
theorem f8_10 : zf 8 10 = some (.iload_n 1) := cf8_0.2.2.2.2.2.1
theorem f8_11 : zf 8 11 = some (.aload_n 0) := cf8_0.2.2.2.2.2.2.1
theorem f8_12 : zf 8 12 = some (.getfield 7) := cf8_0.2.2.2.2.2.2.2.1
theorem f8_15 : zf 8 15 = some (.getfield 27) := cf8_0.2.2.2.2.2.2.2.2.1
theorem f8_18 : zf 8 18 = some (.iadd) := cf8_0.2.2.2.2.2.2.2.2.2.1
theorem f8_19 : zf 8 19 = some (.invokespecial 30) := cf8_0.2.2.2.2.2.2.2.2.2.2.1
theorem f8_22 : zf 8 22 = some (.ireturn) := cf8_0.2.2.2.2.2.2.2.2.2.2.2
theorem cf9_0 : zf 9 0 = some (.aload_n 0) ∧ zf 9 1 = some (.invokespecial 3) ∧ zf 9 4 = some (.aload_n 0) ∧ zf 9 5 = some (.sipush 400) ∧ zf 9 8 = some (.newarray .int) ∧ zf 9 10 = some (.putfield 9) ∧ zf 9 13 = some (.aload_n 0) ∧ zf 9 14 = some (.sipush 400) ∧ zf 9 17 = some (.newarray .int) ∧ zf 9 19 = some (.putfield 15) ∧ zf 9 22 = some (.aload_n 0) ∧ zf 9 23 = some (.sipush 400) ∧ zf 9 26 = some (.newarray .int) ∧ zf 9 28 = some (.putfield 18) ∧ zf 9 31 = some (.aload_n 0) ∧ zf 9 32 = some (.sipush 400) := by decide +kernel
theorem f9_0 : zf 9 0 = some (.aload_n 0) := cf9_0.1
theorem f9_1 : zf 9 1 = some (.invokespecial 3) := cf9_0.2.1
theorem f9_4 : zf 9 4 = some (.aload_n 0) := cf9_0.2.2.1
theorem f9_5 : zf 9 5 = some (.sipush 400) := cf9_0.2.2.2.1
theorem f9_8 : zf 9 8 = some (.newarray .int) := cf9_0.2.2.2.2.1
theorem f9_10 : zf 9 10 = some (.putfield 9) := cf9_0.2.2.2.2.2.1
theorem f9_13 : zf 9 13 = some (.aload_n 0) := cf9_0.2.2.2.2.2.2.1
theorem f9_14 : zf 9 14 = some (.sipush 400) := cf9_0.2.2.2.2.2.2.2.1
theorem f9_17 : zf 9 17 = some (.newarray .int) := cf9_0.2.2.2.2.2.2.2.2.1
theorem f9_19 : zf 9 19 = some (.putfield 15) := cf9_0.2.2.2.2.2.2.2.2.2.1
theorem f9_22 : zf 9 22 = some (.aload_n 0) := cf9_0.2.2.2.2.2.2.2.2.2.2.1
theorem f9_23 : zf 9 23 = some (.sipush 400) := cf9_0.2.2.2.2.2.2.2.2.2.2.2.1
theorem f9_26 : zf 9 26 = some (.newarray .int) := cf9_0.2.2.2.2.2.2.2.2.2.2.2.2.1
theorem f9_28 : zf 9 28 = some (.putfield 18) := cf9_0.2.2.2.2.2.2.2.2.2.2.2.2.2.1
theorem f9_31 : zf 9 31 = some (.aload_n 0) := cf9_0.2.2.2.2.2.2.2.2.2.2.2.2.2.2.1
theorem f9_32 : zf 9 32 = some (.sipush 400) := cf9_0.2.2.2.2.2.2.2.2.2.2.2.2.2.2.2
theorem cf9_35 : zf 9 35 = some (.newarray .int) ∧ zf 9 37 = some (.putfield 21) ∧ zf 9 40 = some (.return_) := by decide +kernel
theorem f9_35 : zf 9 35 = some (.newarray .int) := cf9_35.1
theorem f9_37 : zf 9 37 = some (.putfield 21) := cf9_35.2.1
theorem f9_40 : zf 9 40 = some (.return_) := cf9_35.2.2
theorem cf10_0 : zf 10 0 = some (.iconst 0) ∧ zf 10 1 = some (.istore_n 2) ∧ zf 10 2 = some (.iload_n 2) ∧ zf 10 3 = some (.aload_n 1) ∧ zf 10 4 = some (.getfield 24) ∧ zf 10 7 = some (.if_icmp .ge 119) ∧ zf 10 10 = some (.iload_n 2) ∧ zf 10 11 = some (.bipush 8) ∧ zf 10 13 = some (.if_icmp .ge 113) ∧ zf 10 16 = some (.aload_n 0) ∧ zf 10 17 = some (.getfield 30) ∧ zf 10 20 = some (.sipush 400) ∧ zf 10 23 = some (.if_icmp .ge 87) ∧ zf 10 26 = some (.aload_n 0) ∧ zf 10 27 = some (.getfield 9) ∧ zf 10 30 = some (.aload_n 0) := by decide +kernel
theorem f10_0 : zf 10 0 = some (.iconst 0) := cf10_0.1
theorem f10_1 : zf 10 1 = some (.istore_n 2) := cf10_0.2.1
theorem f10_2 : zf 10 2 = some (.iload_n 2) := cf10_0.2.2.1
theorem f10_3 : zf 10 3 = some (.aload_n 1) := cf10_0.2.2.2.1
theorem f10_4 : zf 10 4 = some (.getfield 24) := cf10_0.2.2.2.2.1
theorem f10_7 : zf 10 7 = some (.if_icmp .ge 119) := cf10_0.2.2.2.2.2.1
theorem f10_10 : zf 10 10 = some (.iload_n 2) := cf10_0.2.2.2.2.2.2.1
theorem f10_11 : zf 10 11 = some (.bipush 8) := cf10_0.2.2.2.2.2.2.2.1
theorem f10_13 : zf 10 13 = some (.if_icmp .ge 113) := cf10_0.2.2.2.2.2.2.2.2.1
theorem f10_16 : zf 10 16 = some (.aload_n 0) := cf10_0.2.2.2.2.2.2.2.2.2.1
theorem f10_17 : zf 10 17 = some (.getfield 30) := cf10_0.2.2.2.2.2.2.2.2.2.2.1
theorem f10_20 : zf 10 20 = some (.sipush 400) := cf10_0.2.2.2.2.2.2.2.2.2.2.2.1
theorem f10_23 : zf 10 23 = some (.if_icmp .ge 87) := cf10_0.2.2.2.2.2.2.2.2.2.2.2.2.1
theorem f10_26 : zf 10 26 = some (.aload_n 0) := cf10_0.2.2.2.2.2.2.2.2.2.2.2.2.2.1
theorem f10_27 : zf 10 27 = some (.getfield 9) := cf10_0.2.2.2.2.2.2.2.2.2.2.2.2.2.2.1
theorem f10_30 : zf 10 30 = some (.aload_n 0) := cf10_0.2.2.2.2.2.2.2.2.2.2.2.2.2.2.2
theorem cf10_31 : zf 10 31 = some (.getfield 30) ∧ zf 10 34 = some (.aload_n 1) ∧ zf 10 35 = some (.getfield 33) ∧ zf 10 38 = some (.iload_n 2) ∧ zf 10 39 = some (.iaload) ∧ zf 10 40 = some (.iastore) ∧ zf 10 41 = some (.aload_n 0) ∧ zf 10 42 = some (.getfield 15) ∧ zf 10 45 = some (.aload_n 0) ∧ zf 10 46 = some (.getfield 30) ∧ zf 10 49 = some (.aload_n 1) ∧ zf 10 50 = some (.getfield 36) ∧ zf 10 53 = some (.iload_n 2) ∧ zf 10 54 = some (.iaload) ∧ zf 10 55 = some (.iastore) ∧ zf 10 56 = some (.aload_n 0) := by decide +kernel
theorem f10_31 : zf 10 31 = some (.getfield 30) := cf10_31.1
theorem f10_34 : zf 10 34 = some (.aload_n 1) := cf10_31.2.1
theorem f10_35 : zf 10 35 = some (.getfield 33) := cf10_31.2.2.1
theorem f10_38 : zf 10 38 = some (.iload_n 2) := cf10_31.2.2.2.1
theorem f10_39 : zf 10 39 = some (.iaload) := cf10_31.2.2.2.2.1
theorem f10_40 : zf 10 40 = some (.iastore) := cf10_31.2.2.2.2.2.1
theorem f10_41 : zf 10 41 = some (.aload_n 0) := cf10_31.2.2.2.2.2.2.1
theorem f10_42 : zf 10 42 = some (.getfield 15) := cf10_31.2.2.2.2.2.2.2.1
theorem f10_45 : zf 10 45 = some (.aload_n 0) := cf10_31.2.2.2.2.2.2.2.2.1
theorem f10_46 : zf 10 46 = some (.getfield 30) := cf10_31.2.2.2.2.2.2.2.2.2.1
theorem f10_49 : zf 10 49 = some (.aload_n 1) := cf10_31.2.2.2.2.2.2.2.2.2.2.1
theorem f10_50 : zf 10 50 = some (.getfield 36) := cf10_31.2.2.2.2.2.2.2.2.2.2.2.1
theorem f10_53 : zf 10 53 = some (.iload_n 2) := cf10_31.2.2.2.2.2.2.2.2.2.2.2.2.1
theorem f10_54 : zf 10 54 = some (.iaload) := cf10_31.2.2.2.2.2.2.2.2.2.2.2.2.2.1
theorem f10_55 : zf 10 55 = some (.iastore) := cf10_31.2.2.2.2.2.2.2.2.2.2.2.2.2.2.1
theorem f10_56 : zf 10 56 = some (.aload_n 0) := cf10_31.2.2.2.2.2.2.2.2.2.2.2.2.2.2.2
theorem cf10_57 : zf 10 57 = some (.getfield 18) ∧ zf 10 60 = some (.aload_n 0) ∧ zf 10 61 = some (.getfield 30) ∧ zf 10 64 = some (.aload_n 1) ∧ zf 10 65 = some (.getfield 39) ∧ zf 10 68 = some (.getfield 43) ∧ zf 10 71 = some (.aload_n 1) ∧ zf 10 72 = some (.getfield 39) ∧ zf 10 75 = some (.getfield 49) ∧ zf 10 78 = some (.invokestatic 52) ∧ zf 10 81 = some (.l2i) ∧ zf 10 82 = some (.iastore) ∧ zf 10 83 = some (.aload_n 0) ∧ zf 10 84 = some (.getfield 21) ∧ zf 10 87 = some (.aload_n 0) ∧ zf 10 88 = some (.getfield 30) := by decide +kernel
theorem f10_57 : zf 10 57 = some (.getfield 18) := cf10_57.1
theorem f10_60 : zf 10 60 = some (.aload_n 0) := cf10_57.2.1
theorem f10_61 : zf 10 61 = some (.getfield 30) := cf10_57.2.2.1
theorem f10_64 : zf 10 64 = some (.aload_n 1) := cf10_57.2.2.2.1
theorem f10_65 : zf 10 65 = some (.getfield 39) := cf10_57.2.2.2.2.1
theorem f10_68 : zf 10 68 = some (.getfield 43) := cf10_57.2.2.2.2.2.1
theorem f10_71 : zf 10 71 = some (.aload_n 1) := cf10_57.2.2.2.2.2.2.1
theorem f10_72 : zf 10 72 = some (.getfield 39) := cf10_57.2.2.2.2.2.2.2.1
theorem f10_75 : zf 10 75 = some (.getfield 49) := cf10_57.2.2.2.2.2.2.2.2.1
theorem f10_78 : zf 10 78 = some (.invokestatic 52) := cf10_57.2.2.2.2.2.2.2.2.2.1
theorem f10_81 : zf 10 81 = some (.l2i) := cf10_57.2.2.2.2.2.2.2.2.2.2.1
theorem f10_82 : zf 10 82 = some (.iastore) := cf10_57.2.2.2.2.2.2.2.2.2.2.2.1
theorem f10_83 : zf 10 83 = some (.aload_n 0) := cf10_57.2.2.2.2.2.2.2.2.2.2.2.2.1
theorem f10_84 : zf 10 84 = some (.getfield 21) := cf10_57.2.2.2.2.2.2.2.2.2.2.2.2.2.1
theorem f10_87 : zf 10 87 = some (.aload_n 0) := cf10_57.2.2.2.2.2.2.2.2.2.2.2.2.2.2.1
theorem f10_88 : zf 10 88 = some (.getfield 30) := cf10_57.2.2.2.2.2.2.2.2.2.2.2.2.2.2.2
theorem cf10_91 : zf 10 91 = some (.aload_n 1) ∧ zf 10 92 = some (.getfield 39) ∧ zf 10 95 = some (.getfield 43) ∧ zf 10 98 = some (.aload_n 1) ∧ zf 10 99 = some (.getfield 39) ∧ zf 10 102 = some (.getfield 49) ∧ zf 10 105 = some (.invokestatic 56) ∧ zf 10 108 = some (.l2i) ∧ zf 10 109 = some (.iastore) ∧ zf 10 110 = some (.aload_n 0) ∧ zf 10 111 = some (.dup) ∧ zf 10 112 = some (.getfield 30) ∧ zf 10 115 = some (.iconst 1) ∧ zf 10 116 = some (.iadd) ∧ zf 10 117 = some (.putfield 30) ∧ zf 10 120 = some (.iinc 2 1) := by decide +kernel
theorem f10_91 : zf 10 91 = some (.aload_n 1) := cf10_91.1
theorem f10_92 : zf 10 92 = some (.getfield 39) := cf10_91.2.1
theorem f10_95 : zf 10 95 = some (.getfield 43) := cf10_91.2.2.1
theorem f10_98 : zf 10 98 = some (.aload_n 1) := cf10_91.2.2.2.1
theorem f10_99 : zf 10 99 = some (.getfield 39) := cf10_91.2.2.2.2.1
theorem f10_102 : zf 10 102 = some (.getfield 49) := cf10_91.2.2.2.2.2.1
theorem f10_105 : zf 10 105 = some (.invokestatic 56) := cf10_91.2.2.2.2.2.2.1
theorem f10_108 : zf 10 108 = some (.l2i) := cf10_91.2.2.2.2.2.2.2.1
theorem f10_109 : zf 10 109 = some (.iastore) := cf10_91.2.2.2.2.2.2.2.2.1
theorem f10_110 : zf 10 110 = some (.aload_n 0) := cf10_91.2.2.2.2.2.2.2.2.2.1
theorem f10_111 : zf 10 111 = some (.dup) := cf10_91.2.2.2.2.2.2.2.2.2.2.1
theorem f10_112 : zf 10 112 = some (.getfield 30) := cf10_91.2.2.2.2.2.2.2.2.2.2.2.1
theorem f10_115 : zf 10 115 = some (.iconst 1) := cf10_91.2.2.2.2.2.2.2.2.2.2.2.2.1
theorem f10_116 : zf 10 116 = some (.iadd) := cf10_91.2.2.2.2.2.2.2.2.2.2.2.2.2.1
theorem f10_117 : zf 10 117 = some (.putfield 30) := cf10_91.2.2.2.2.2.2.2.2.2.2.2.2.2.2.1
theorem f10_120 : zf 10 120 = some (.iinc 2 1) := cf10_91.2.2.2.2.2.2.2.2.2.2.2.2.2.2.2
theorem cf10_123 : zf 10 123 = some (.goto (-121)) ∧ zf 10 126 = some (.return_) := by decide +kernel
theorem f10_123 : zf 10 123 = some (.goto (-121)) := cf10_123.1
theorem f10_126 : zf 10 126 = some (.return_) := cf10_123.2
theorem cf11_0 : zf 11 0 = some (.iload_n 1) ∧ zf 11 1 = some (.ifCond .lt 18) ∧ zf 11 4 = some (.iload_n 1) ∧ zf 11 5 = some (.aload_n 0) ∧ zf 11 6 = some (.getfield 30) ∧ zf 11 9 = some (.if_icmp .ge 10) ∧ zf 11 12 = some (.iload_n 1) ∧ zf 11 13 = some (.sipush 400) ∧ zf 11 16 = some (.if_icmp .lt 5) ∧ zf 11 19 = some (.iconst (-1)) ∧ zf 11 20 = some (.ireturn) ∧ zf 11 21 = some (.iload_n 2) ∧ zf 11 22 = some (.tableswitch 58 0 3 #[30, 37, 44, 51]) ∧ zf 11 52 = some (.aload_n 0) ∧ zf 11 53 = some (.getfield 9) ∧ zf 11 56 = some (.iload_n 1) := by decide +kernel
theorem f11_0 : zf 11 0 = some (.iload_n 1) := cf11_0.1
theorem f11_1 : zf 11 1 = some (.ifCond .lt 18) := cf11_0.2.1
theorem f11_4 : zf 11 4 = some (.iload_n 1) := cf11_0.2.2.1
theorem f11_5 : zf 11 5 = some (.aload_n 0) := cf11_0.2.2.2.1
theorem f11_6 : zf 11 6 = some (.getfield 30) := cf11_0.2.2.2.2.1
theorem f11_9 : zf 11 9 = some (.if_icmp .ge 10) := cf11_0.2.2.2.2.2.1
theorem f11_12 : zf 11 12 = some (.iload_n 1) := cf11_0.2.2.2.2.2.2.1
theorem f11_13 : zf 11 13 = some (.sipush 400) := cf11_0.2.2.2.2.2.2.2.1
theorem f11_16 : zf 11 16 = some (.if_icmp .lt 5) := cf11_0.2.2.2.2.2.2.2.2.1
theorem f11_19 : zf 11 19 = some (.iconst (-1)) := cf11_0.2.2.2.2.2.2.2.2.2.1
theorem f11_20 : zf 11 20 = some (.ireturn) := cf11_0.2.2.2.2.2.2.2.2.2.2.1
theorem f11_21 : zf 11 21 = some (.iload_n 2) := cf11_0.2.2.2.2.2.2.2.2.2.2.2.1
theorem f11_22 : zf 11 22 = some (.tableswitch 58 0 3 #[30, 37, 44, 51]) := cf11_0.2.2.2.2.2.2.2.2.2.2.2.2.1
theorem f11_52 : zf 11 52 = some (.aload_n 0) := cf11_0.2.2.2.2.2.2.2.2.2.2.2.2.2.1
theorem f11_53 : zf 11 53 = some (.getfield 9) := cf11_0.2.2.2.2.2.2.2.2.2.2.2.2.2.2.1
theorem f11_56 : zf 11 56 = some (.iload_n 1) := cf11_0.2.2.2.2.2.2.2.2.2.2.2.2.2.2.2
theorem cf11_57 : zf 11 57 = some (.iaload) ∧ zf 11 58 = some (.ireturn) ∧ zf 11 59 = some (.aload_n 0) ∧ zf 11 60 = some (.getfield 15) ∧ zf 11 63 = some (.iload_n 1) ∧ zf 11 64 = some (.iaload) ∧ zf 11 65 = some (.ireturn) ∧ zf 11 66 = some (.aload_n 0) ∧ zf 11 67 = some (.getfield 18) ∧ zf 11 70 = some (.iload_n 1) ∧ zf 11 71 = some (.iaload) ∧ zf 11 72 = some (.ireturn) ∧ zf 11 73 = some (.aload_n 0) ∧ zf 11 74 = some (.getfield 21) ∧ zf 11 77 = some (.iload_n 1) ∧ zf 11 78 = some (.iaload) := by decide +kernel
theorem f11_57 : zf 11 57 = some (.iaload) := cf11_57.1
theorem f11_58 : zf 11 58 = some (.ireturn) := cf11_57.2.1
theorem f11_59 : zf 11 59 = some (.aload_n 0) := cf11_57.2.2.1
theorem f11_60 : zf 11 60 = some (.getfield 15) := cf11_57.2.2.2.1
theorem f11_63 : zf 11 63 = some (.iload_n 1) := cf11_57.2.2.2.2.1
theorem f11_64 : zf 11 64 = some (.iaload) := cf11_57.2.2.2.2.2.1
theorem f11_65 : zf 11 65 = some (.ireturn) := cf11_57.2.2.2.2.2.2.1
theorem f11_66 : zf 11 66 = some (.aload_n 0) := cf11_57.2.2.2.2.2.2.2.1
theorem f11_67 : zf 11 67 = some (.getfield 18) := cf11_57.2.2.2.2.2.2.2.2.1
theorem f11_70 : zf 11 70 = some (.iload_n 1) := cf11_57.2.2.2.2.2.2.2.2.2.1
theorem f11_71 : zf 11 71 = some (.iaload) := cf11_57.2.2.2.2.2.2.2.2.2.2.1
theorem f11_72 : zf 11 72 = some (.ireturn) := cf11_57.2.2.2.2.2.2.2.2.2.2.2.1
theorem f11_73 : zf 11 73 = some (.aload_n 0) := cf11_57.2.2.2.2.2.2.2.2.2.2.2.2.1
theorem f11_74 : zf 11 74 = some (.getfield 21) := cf11_57.2.2.2.2.2.2.2.2.2.2.2.2.2.1
theorem f11_77 : zf 11 77 = some (.iload_n 1) := cf11_57.2.2.2.2.2.2.2.2.2.2.2.2.2.2.1
theorem f11_78 : zf 11 78 = some (.iaload) := cf11_57.2.2.2.2.2.2.2.2.2.2.2.2.2.2.2
theorem cf11_79 : zf 11 79 = some (.ireturn) ∧ zf 11 80 = some (.iconst (-1)) ∧ zf 11 81 = some (.ireturn) := by decide +kernel
theorem f11_79 : zf 11 79 = some (.ireturn) := cf11_79.1
theorem f11_80 : zf 11 80 = some (.iconst (-1)) := cf11_79.2.1
theorem f11_81 : zf 11 81 = some (.ireturn) := cf11_79.2.2
theorem cf12_0 : zf 12 0 = some (.aload_n 0) ∧ zf 12 1 = some (.invokespecial 3) ∧ zf 12 4 = some (.aload_n 0) ∧ zf 12 5 = some (.bipush 8) ∧ zf 12 7 = some (.newarray .int) ∧ zf 12 9 = some (.putfield 9) ∧ zf 12 12 = some (.aload_n 0) ∧ zf 12 13 = some (.bipush 8) ∧ zf 12 15 = some (.newarray .int) ∧ zf 12 17 = some (.putfield 15) ∧ zf 12 20 = some (.aload_n 0) ∧ zf 12 21 = some (.bipush 8) ∧ zf 12 23 = some (.newarray .int) ∧ zf 12 25 = some (.putfield 18) ∧ zf 12 28 = some (.aload_n 0) ∧ zf 12 29 = some (.bipush 8) := by decide +kernel
theorem f12_0 : zf 12 0 = some (.aload_n 0) := cf12_0.1
theorem f12_1 : zf 12 1 = some (.invokespecial 3) := cf12_0.2.1
theorem f12_4 : zf 12 4 = some (.aload_n 0) := cf12_0.2.2.1
theorem f12_5 : zf 12 5 = some (.bipush 8) := cf12_0.2.2.2.1
theorem f12_7 : zf 12 7 = some (.newarray .int) := cf12_0.2.2.2.2.1
theorem f12_9 : zf 12 9 = some (.putfield 9) := cf12_0.2.2.2.2.2.1
theorem f12_12 : zf 12 12 = some (.aload_n 0) := cf12_0.2.2.2.2.2.2.1
theorem f12_13 : zf 12 13 = some (.bipush 8) := cf12_0.2.2.2.2.2.2.2.1
theorem f12_15 : zf 12 15 = some (.newarray .int) := cf12_0.2.2.2.2.2.2.2.2.1
theorem f12_17 : zf 12 17 = some (.putfield 15) := cf12_0.2.2.2.2.2.2.2.2.2.1
theorem f12_20 : zf 12 20 = some (.aload_n 0) := cf12_0.2.2.2.2.2.2.2.2.2.2.1
theorem f12_21 : zf 12 21 = some (.bipush 8) := cf12_0.2.2.2.2.2.2.2.2.2.2.2.1
theorem f12_23 : zf 12 23 = some (.newarray .int) := cf12_0.2.2.2.2.2.2.2.2.2.2.2.2.1
theorem f12_25 : zf 12 25 = some (.putfield 18) := cf12_0.2.2.2.2.2.2.2.2.2.2.2.2.2.1
theorem f12_28 : zf 12 28 = some (.aload_n 0) := cf12_0.2.2.2.2.2.2.2.2.2.2.2.2.2.2.1
theorem f12_29 : zf 12 29 = some (.bipush 8) := cf12_0.2.2.2.2.2.2.2.2.2.2.2.2.2.2.2
theorem cf12_31 : zf 12 31 = some (.newarray .int) ∧ zf 12 33 = some (.putfield 21) ∧ zf 12 36 = some (.aload_n 0) ∧ zf 12 37 = some (.bipush 8) ∧ zf 12 39 = some (.newarray .int) ∧ zf 12 41 = some (.putfield 24) ∧ zf 12 44 = some (.aload_n 0) ∧ zf 12 45 = some (.bipush 8) ∧ zf 12 47 = some (.newarray .int) ∧ zf 12 49 = some (.putfield 27) ∧ zf 12 52 = some (.aload_n 0) ∧ zf 12 53 = some (.bipush 8) ∧ zf 12 55 = some (.newarray .int) ∧ zf 12 57 = some (.putfield 30) ∧ zf 12 60 = some (.aload_n 0) ∧ zf 12 61 = some (.bipush 14) := by decide +kernel
theorem f12_31 : zf 12 31 = some (.newarray .int) := cf12_31.1
theorem f12_33 : zf 12 33 = some (.putfield 21) := cf12_31.2.1
theorem f12_36 : zf 12 36 = some (.aload_n 0) := cf12_31.2.2.1
theorem f12_37 : zf 12 37 = some (.bipush 8) := cf12_31.2.2.2.1
theorem f12_39 : zf 12 39 = some (.newarray .int) := cf12_31.2.2.2.2.1
theorem f12_41 : zf 12 41 = some (.putfield 24) := cf12_31.2.2.2.2.2.1
theorem f12_44 : zf 12 44 = some (.aload_n 0) := cf12_31.2.2.2.2.2.2.1
theorem f12_45 : zf 12 45 = some (.bipush 8) := cf12_31.2.2.2.2.2.2.2.1
theorem f12_47 : zf 12 47 = some (.newarray .int) := cf12_31.2.2.2.2.2.2.2.2.1
theorem f12_49 : zf 12 49 = some (.putfield 27) := cf12_31.2.2.2.2.2.2.2.2.2.1
theorem f12_52 : zf 12 52 = some (.aload_n 0) := cf12_31.2.2.2.2.2.2.2.2.2.2.1
theorem f12_53 : zf 12 53 = some (.bipush 8) := cf12_31.2.2.2.2.2.2.2.2.2.2.2.1
theorem f12_55 : zf 12 55 = some (.newarray .int) := cf12_31.2.2.2.2.2.2.2.2.2.2.2.2.1
theorem f12_57 : zf 12 57 = some (.putfield 30) := cf12_31.2.2.2.2.2.2.2.2.2.2.2.2.2.1
theorem f12_60 : zf 12 60 = some (.aload_n 0) := cf12_31.2.2.2.2.2.2.2.2.2.2.2.2.2.2.1
theorem f12_61 : zf 12 61 = some (.bipush 14) := cf12_31.2.2.2.2.2.2.2.2.2.2.2.2.2.2.2
theorem cf12_63 : zf 12 63 = some (.newarray .int) ∧ zf 12 65 = some (.putfield 33) ∧ zf 12 68 = some (.aload_n 0) ∧ zf 12 69 = some (.bipush 14) ∧ zf 12 71 = some (.newarray .int) ∧ zf 12 73 = some (.putfield 36) ∧ zf 12 76 = some (.return_) := by decide +kernel
theorem f12_63 : zf 12 63 = some (.newarray .int) := cf12_63.1
theorem f12_65 : zf 12 65 = some (.putfield 33) := cf12_63.2.1
theorem f12_68 : zf 12 68 = some (.aload_n 0) := cf12_63.2.2.1
theorem f12_69 : zf 12 69 = some (.bipush 14) := cf12_63.2.2.2.1
theorem f12_71 : zf 12 71 = some (.newarray .int) := cf12_63.2.2.2.2.1
theorem f12_73 : zf 12 73 = some (.putfield 36) := cf12_63.2.2.2.2.2.1
theorem f12_76 : zf 12 76 = some (.return_) := cf12_63.2.2.2.2.2.2
theorem cf13_0 : zf 13 0 = some (.iload_n 1) ∧ zf 13 1 = some (.ifCond .lt 21) ∧ zf 13 4 = some (.iload_n 1) ∧ zf 13 5 = some (.aload_n 0) ∧ zf 13 6 = some (.getfield 39) ∧ zf 13 9 = some (.if_icmp .ge 13) ∧ zf 13 12 = some (.iload_n 1) ∧ zf 13 13 = some (.bipush 8) ∧ zf 13 15 = some (.if_icmp .ge 7) ∧ zf 13 18 = some (.iconst 1) ∧ zf 13 19 = some (.goto 4) ∧ zf 13 22 = some (.iconst 0) ∧ zf 13 23 = some (.ireturn) := by decide +kernel
theorem f13_0 : zf 13 0 = some (.iload_n 1) := cf13_0.1
theorem f13_1 : zf 13 1 = some (.ifCond .lt 21) := cf13_0.2.1
theorem f13_4 : zf 13 4 = some (.iload_n 1) := cf13_0.2.2.1
theorem f13_5 : zf 13 5 = some (.aload_n 0) := cf13_0.2.2.2.1
theorem f13_6 : zf 13 6 = some (.getfield 39) := cf13_0.2.2.2.2.1
theorem f13_9 : zf 13 9 = some (.if_icmp .ge 13) := cf13_0.2.2.2.2.2.1
theorem f13_12 : zf 13 12 = some (.iload_n 1) := cf13_0.2.2.2.2.2.2.1
theorem f13_13 : zf 13 13 = some (.bipush 8) := cf13_0.2.2.2.2.2.2.2.1
theorem f13_15 : zf 13 15 = some (.if_icmp .ge 7) := cf13_0.2.2.2.2.2.2.2.2.1
theorem f13_18 : zf 13 18 = some (.iconst 1) := cf13_0.2.2.2.2.2.2.2.2.2.1
theorem f13_19 : zf 13 19 = some (.goto 4) := cf13_0.2.2.2.2.2.2.2.2.2.2.1
theorem f13_22 : zf 13 22 = some (.iconst 0) := cf13_0.2.2.2.2.2.2.2.2.2.2.2.1
theorem f13_23 : zf 13 23 = some (.ireturn) := cf13_0.2.2.2.2.2.2.2.2.2.2.2.2
theorem cf14_0 : zf 14 0 = some (.iload_n 1) ∧ zf 14 1 = some (.ifCond .lt 21) ∧ zf 14 4 = some (.iload_n 1) ∧ zf 14 5 = some (.aload_n 0) ∧ zf 14 6 = some (.getfield 43) ∧ zf 14 9 = some (.if_icmp .ge 13) ∧ zf 14 12 = some (.iload_n 1) ∧ zf 14 13 = some (.bipush 14) ∧ zf 14 15 = some (.if_icmp .ge 7) ∧ zf 14 18 = some (.iconst 1) ∧ zf 14 19 = some (.goto 4) ∧ zf 14 22 = some (.iconst 0) ∧ zf 14 23 = some (.ireturn) := by decide +kernel
theorem f14_0 : zf 14 0 = some (.iload_n 1) := cf14_0.1
theorem f14_1 : zf 14 1 = some (.ifCond .lt 21) := cf14_0.2.1
theorem f14_4 : zf 14 4 = some (.iload_n 1) := cf14_0.2.2.1
theorem f14_5 : zf 14 5 = some (.aload_n 0) := cf14_0.2.2.2.1
theorem f14_6 : zf 14 6 = some (.getfield 43) := cf14_0.2.2.2.2.1
theorem f14_9 : zf 14 9 = some (.if_icmp .ge 13) := cf14_0.2.2.2.2.2.1
theorem f14_12 : zf 14 12 = some (.iload_n 1) := cf14_0.2.2.2.2.2.2.1
theorem f14_13 : zf 14 13 = some (.bipush 14) := cf14_0.2.2.2.2.2.2.2.1
theorem f14_15 : zf 14 15 = some (.if_icmp .ge 7) := cf14_0.2.2.2.2.2.2.2.2.1
theorem f14_18 : zf 14 18 = some (.iconst 1) := cf14_0.2.2.2.2.2.2.2.2.2.1
theorem f14_19 : zf 14 19 = some (.goto 4) := cf14_0.2.2.2.2.2.2.2.2.2.2.1
theorem f14_22 : zf 14 22 = some (.iconst 0) := cf14_0.2.2.2.2.2.2.2.2.2.2.2.1
theorem f14_23 : zf 14 23 = some (.ireturn) := cf14_0.2.2.2.2.2.2.2.2.2.2.2.2
theorem cf15_0 : zf 15 0 = some (.iload_n 1) ∧ zf 15 1 = some (.ifCond .lt 26) ∧ zf 15 4 = some (.iload_n 1) ∧ zf 15 5 = some (.aload_n 0) ∧ zf 15 6 = some (.getfield 39) ∧ zf 15 9 = some (.if_icmp .ge 18) ∧ zf 15 12 = some (.iload_n 1) ∧ zf 15 13 = some (.bipush 8) ∧ zf 15 15 = some (.if_icmp .ge 12) ∧ zf 15 18 = some (.aload_n 0) ∧ zf 15 19 = some (.getfield 9) ∧ zf 15 22 = some (.iload_n 1) ∧ zf 15 23 = some (.iaload) ∧ zf 15 24 = some (.goto 4) ∧ zf 15 27 = some (.iconst (-1)) ∧ zf 15 28 = some (.ireturn) := by decide +kernel
theorem f15_0 : zf 15 0 = some (.iload_n 1) := cf15_0.1
theorem f15_1 : zf 15 1 = some (.ifCond .lt 26) := cf15_0.2.1
theorem f15_4 : zf 15 4 = some (.iload_n 1) := cf15_0.2.2.1
theorem f15_5 : zf 15 5 = some (.aload_n 0) := cf15_0.2.2.2.1
theorem f15_6 : zf 15 6 = some (.getfield 39) := cf15_0.2.2.2.2.1
theorem f15_9 : zf 15 9 = some (.if_icmp .ge 18) := cf15_0.2.2.2.2.2.1
theorem f15_12 : zf 15 12 = some (.iload_n 1) := cf15_0.2.2.2.2.2.2.1
theorem f15_13 : zf 15 13 = some (.bipush 8) := cf15_0.2.2.2.2.2.2.2.1
theorem f15_15 : zf 15 15 = some (.if_icmp .ge 12) := cf15_0.2.2.2.2.2.2.2.2.1
theorem f15_18 : zf 15 18 = some (.aload_n 0) := cf15_0.2.2.2.2.2.2.2.2.2.1
theorem f15_19 : zf 15 19 = some (.getfield 9) := cf15_0.2.2.2.2.2.2.2.2.2.2.1
theorem f15_22 : zf 15 22 = some (.iload_n 1) := cf15_0.2.2.2.2.2.2.2.2.2.2.2.1
theorem f15_23 : zf 15 23 = some (.iaload) := cf15_0.2.2.2.2.2.2.2.2.2.2.2.2.1
theorem f15_24 : zf 15 24 = some (.goto 4) := cf15_0.2.2.2.2.2.2.2.2.2.2.2.2.2.1
theorem f15_27 : zf 15 27 = some (.iconst (-1)) := cf15_0.2.2.2.2.2.2.2.2.2.2.2.2.2.2.1
theorem f15_28 : zf 15 28 = some (.ireturn) := cf15_0.2.2.2.2.2.2.2.2.2.2.2.2.2.2.2
theorem cf16_0 : zf 16 0 = some (.aload_n 0) ∧ zf 16 1 = some (.iload_n 1) ∧ zf 16 2 = some (.invokevirtual 46) ∧ zf 16 5 = some (.ifCond .eq 12) ∧ zf 16 8 = some (.aload_n 0) ∧ zf 16 9 = some (.getfield 15) ∧ zf 16 12 = some (.iload_n 1) ∧ zf 16 13 = some (.iaload) ∧ zf 16 14 = some (.goto 4) ∧ zf 16 17 = some (.iconst 0) ∧ zf 16 18 = some (.ireturn) := by decide +kernel
theorem f16_0 : zf 16 0 = some (.aload_n 0) := cf16_0.1
theorem f16_1 : zf 16 1 = some (.iload_n 1) := cf16_0.2.1
theorem f16_2 : zf 16 2 = some (.invokevirtual 46) := cf16_0.2.2.1
theorem f16_5 : zf 16 5 = some (.ifCond .eq 12) := cf16_0.2.2.2.1
theorem f16_8 : zf 16 8 = some (.aload_n 0) := cf16_0.2.2.2.2.1
theorem f16_9 : zf 16 9 = some (.getfield 15) := cf16_0.2.2.2.2.2.1
theorem f16_12 : zf 16 12 = some (.iload_n 1) := cf16_0.2.2.2.2.2.2.1
theorem f16_13 : zf 16 13 = some (.iaload) := cf16_0.2.2.2.2.2.2.2.1
theorem f16_14 : zf 16 14 = some (.goto 4) := cf16_0.2.2.2.2.2.2.2.2.1
theorem f16_17 : zf 16 17 = some (.iconst 0) := cf16_0.2.2.2.2.2.2.2.2.2.1
theorem f16_18 : zf 16 18 = some (.ireturn) := cf16_0.2.2.2.2.2.2.2.2.2.2
theorem cf17_0 : zf 17 0 = some (.iload_n 1) ∧ zf 17 1 = some (.ifCond .lt 21) ∧ zf 17 4 = some (.iload_n 1) ∧ zf 17 5 = some (.aload_n 0) ∧ zf 17 6 = some (.getfield 39) ∧ zf 17 9 = some (.if_icmp .ge 13) ∧ zf 17 12 = some (.iload_n 1) ∧ zf 17 13 = some (.bipush 8) ∧ zf 17 15 = some (.if_icmp .ge 7) ∧ zf 17 18 = some (.iconst 1) ∧ zf 17 19 = some (.goto 4) ∧ zf 17 22 = some (.iconst 0) ∧ zf 17 23 = some (.istore_n 2) ∧ zf 17 24 = some (.iload_n 2) ∧ zf 17 25 = some (.ifCond .eq 27) ∧ zf 17 28 = some (.aload_n 0) := by decide +kernel
theorem f17_0 : zf 17 0 = some (.iload_n 1) := cf17_0.1
theorem f17_1 : zf 17 1 = some (.ifCond .lt 21) := cf17_0.2.1
theorem f17_4 : zf 17 4 = some (.iload_n 1) := cf17_0.2.2.1
theorem f17_5 : zf 17 5 = some (.aload_n 0) := cf17_0.2.2.2.1
theorem f17_6 : zf 17 6 = some (.getfield 39) := cf17_0.2.2.2.2.1
theorem f17_9 : zf 17 9 = some (.if_icmp .ge 13) := cf17_0.2.2.2.2.2.1
theorem f17_12 : zf 17 12 = some (.iload_n 1) := cf17_0.2.2.2.2.2.2.1
theorem f17_13 : zf 17 13 = some (.bipush 8) := cf17_0.2.2.2.2.2.2.2.1
theorem f17_15 : zf 17 15 = some (.if_icmp .ge 7) := cf17_0.2.2.2.2.2.2.2.2.1
theorem f17_18 : zf 17 18 = some (.iconst 1) := cf17_0.2.2.2.2.2.2.2.2.2.1
theorem f17_19 : zf 17 19 = some (.goto 4) := cf17_0.2.2.2.2.2.2.2.2.2.2.1
theorem f17_22 : zf 17 22 = some (.iconst 0) := cf17_0.2.2.2.2.2.2.2.2.2.2.2.1
theorem f17_23 : zf 17 23 = some (.istore_n 2) := cf17_0.2.2.2.2.2.2.2.2.2.2.2.2.1
theorem f17_24 : zf 17 24 = some (.iload_n 2) := cf17_0.2.2.2.2.2.2.2.2.2.2.2.2.2.1
theorem f17_25 : zf 17 25 = some (.ifCond .eq 27) := cf17_0.2.2.2.2.2.2.2.2.2.2.2.2.2.2.1
theorem f17_28 : zf 17 28 = some (.aload_n 0) := cf17_0.2.2.2.2.2.2.2.2.2.2.2.2.2.2.2
theorem cf17_29 : zf 17 29 = some (.getfield 9) ∧ zf 17 32 = some (.iload_n 1) ∧ zf 17 33 = some (.iaload) ∧ zf 17 34 = some (.iconst 3) ∧ zf 17 35 = some (.if_icmp .eq 13) ∧ zf 17 38 = some (.aload_n 0) ∧ zf 17 39 = some (.getfield 9) ∧ zf 17 42 = some (.iload_n 1) ∧ zf 17 43 = some (.iaload) ∧ zf 17 44 = some (.iconst 4) ∧ zf 17 45 = some (.if_icmp .ne 7) ∧ zf 17 48 = some (.iconst 1) ∧ zf 17 49 = some (.goto 4) ∧ zf 17 52 = some (.iconst 0) ∧ zf 17 53 = some (.ireturn) := by decide +kernel
theorem f17_29 : zf 17 29 = some (.getfield 9) := cf17_29.1
theorem f17_32 : zf 17 32 = some (.iload_n 1) := cf17_29.2.1
theorem f17_33 : zf 17 33 = some (.iaload) := cf17_29.2.2.1
theorem f17_34 : zf 17 34 = some (.iconst 3) := cf17_29.2.2.2.1
theorem f17_35 : zf 17 35 = some (.if_icmp .eq 13) := cf17_29.2.2.2.2.1
theorem f17_38 : zf 17 38 = some (.aload_n 0) := cf17_29.2.2.2.2.2.1
theorem f17_39 : zf 17 39 = some (.getfield 9) := cf17_29.2.2.2.2.2.2.1
theorem f17_42 : zf 17 42 = some (.iload_n 1) := cf17_29.2.2.2.2.2.2.2.1
theorem f17_43 : zf 17 43 = some (.iaload) := cf17_29.2.2.2.2.2.2.2.2.1
theorem f17_44 : zf 17 44 = some (.iconst 4) := cf17_29.2.2.2.2.2.2.2.2.2.1
theorem f17_45 : zf 17 45 = some (.if_icmp .ne 7) := cf17_29.2.2.2.2.2.2.2.2.2.2.1
theorem f17_48 : zf 17 48 = some (.iconst 1) := cf17_29.2.2.2.2.2.2.2.2.2.2.2.1
theorem f17_49 : zf 17 49 = some (.goto 4) := cf17_29.2.2.2.2.2.2.2.2.2.2.2.2.1
theorem f17_52 : zf 17 52 = some (.iconst 0) := cf17_29.2.2.2.2.2.2.2.2.2.2.2.2.2.1
theorem f17_53 : zf 17 53 = some (.ireturn) := cf17_29.2.2.2.2.2.2.2.2.2.2.2.2.2.2
theorem cf18_0 : zf 18 0 = some (.aload_n 0) ∧ zf 18 1 = some (.iload_n 1) ∧ zf 18 2 = some (.invokevirtual 50) ∧ zf 18 5 = some (.iconst 1) ∧ zf 18 6 = some (.if_icmp .eq 11) ∧ zf 18 9 = some (.aload_n 0) ∧ zf 18 10 = some (.iload_n 1) ∧ zf 18 11 = some (.invokevirtual 54) ∧ zf 18 14 = some (.ifCond .eq 7) ∧ zf 18 17 = some (.iconst 1) ∧ zf 18 18 = some (.goto 4) ∧ zf 18 21 = some (.iconst 0) ∧ zf 18 22 = some (.ireturn) := by decide +kernel
theorem f18_0 : zf 18 0 = some (.aload_n 0) := cf18_0.1
theorem f18_1 : zf 18 1 = some (.iload_n 1) := cf18_0.2.1
theorem f18_2 : zf 18 2 = some (.invokevirtual 50) := cf18_0.2.2.1
theorem f18_5 : zf 18 5 = some (.iconst 1) := cf18_0.2.2.2.1
theorem f18_6 : zf 18 6 = some (.if_icmp .eq 11) := cf18_0.2.2.2.2.1
theorem f18_9 : zf 18 9 = some (.aload_n 0) := cf18_0.2.2.2.2.2.1
theorem f18_10 : zf 18 10 = some (.iload_n 1) := cf18_0.2.2.2.2.2.2.1
theorem f18_11 : zf 18 11 = some (.invokevirtual 54) := cf18_0.2.2.2.2.2.2.2.1
theorem f18_14 : zf 18 14 = some (.ifCond .eq 7) := cf18_0.2.2.2.2.2.2.2.2.1
theorem f18_17 : zf 18 17 = some (.iconst 1) := cf18_0.2.2.2.2.2.2.2.2.2.1
theorem f18_18 : zf 18 18 = some (.goto 4) := cf18_0.2.2.2.2.2.2.2.2.2.2.1
theorem f18_21 : zf 18 21 = some (.iconst 0) := cf18_0.2.2.2.2.2.2.2.2.2.2.2.1
theorem f18_22 : zf 18 22 = some (.ireturn) := cf18_0.2.2.2.2.2.2.2.2.2.2.2.2
theorem cf19_0 : zf 19 0 = some (.iload_n 1) ∧ zf 19 1 = some (.iconst (-1)) ∧ zf 19 2 = some (.if_icmp .eq 16) ∧ zf 19 5 = some (.aload_n 0) ∧ zf 19 6 = some (.iload_n 1) ∧ zf 19 7 = some (.invokevirtual 46) ∧ zf 19 10 = some (.ifCond .eq 12) ∧ zf 19 13 = some (.iload_n 1) ∧ zf 19 14 = some (.iload_n 2) ∧ zf 19 15 = some (.if_icmp .le 7) ∧ zf 19 18 = some (.iconst 1) ∧ zf 19 19 = some (.goto 4) ∧ zf 19 22 = some (.iconst 0) ∧ zf 19 23 = some (.ireturn) := by decide +kernel
theorem f19_0 : zf 19 0 = some (.iload_n 1) := cf19_0.1
theorem f19_1 : zf 19 1 = some (.iconst (-1)) := cf19_0.2.1
theorem f19_2 : zf 19 2 = some (.if_icmp .eq 16) := cf19_0.2.2.1
theorem f19_5 : zf 19 5 = some (.aload_n 0) := cf19_0.2.2.2.1
theorem f19_6 : zf 19 6 = some (.iload_n 1) := cf19_0.2.2.2.2.1
theorem f19_7 : zf 19 7 = some (.invokevirtual 46) := cf19_0.2.2.2.2.2.1
theorem f19_10 : zf 19 10 = some (.ifCond .eq 12) := cf19_0.2.2.2.2.2.2.1
theorem f19_13 : zf 19 13 = some (.iload_n 1) := cf19_0.2.2.2.2.2.2.2.1
theorem f19_14 : zf 19 14 = some (.iload_n 2) := cf19_0.2.2.2.2.2.2.2.2.1
theorem f19_15 : zf 19 15 = some (.if_icmp .le 7) := cf19_0.2.2.2.2.2.2.2.2.2.1
theorem f19_18 : zf 19 18 = some (.iconst 1) := cf19_0.2.2.2.2.2.2.2.2.2.2.1
theorem f19_19 : zf 19 19 = some (.goto 4) := cf19_0.2.2.2.2.2.2.2.2.2.2.2.1
theorem f19_22 : zf 19 22 = some (.iconst 0) := cf19_0.2.2.2.2.2.2.2.2.2.2.2.2.1
theorem f19_23 : zf 19 23 = some (.ireturn) := cf19_0.2.2.2.2.2.2.2.2.2.2.2.2.2
theorem cf20_0 : zf 20 0 = some (.aload_n 0) ∧ zf 20 1 = some (.getfield 39) ∧ zf 20 4 = some (.istore_n 3) ∧ zf 20 5 = some (.iload_n 3) ∧ zf 20 6 = some (.bipush 8) ∧ zf 20 8 = some (.if_icmp .lt 5) ∧ zf 20 11 = some (.iconst (-1)) ∧ zf 20 12 = some (.ireturn) ∧ zf 20 13 = some (.aload_n 0) ∧ zf 20 14 = some (.getfield 9) ∧ zf 20 17 = some (.iload_n 3) ∧ zf 20 18 = some (.iload_n 1) ∧ zf 20 19 = some (.iastore) ∧ zf 20 20 = some (.aload_n 0) ∧ zf 20 21 = some (.getfield 15) ∧ zf 20 24 = some (.iload_n 3) := by decide +kernel
theorem f20_0 : zf 20 0 = some (.aload_n 0) := cf20_0.1
theorem f20_1 : zf 20 1 = some (.getfield 39) := cf20_0.2.1
theorem f20_4 : zf 20 4 = some (.istore_n 3) := cf20_0.2.2.1
theorem f20_5 : zf 20 5 = some (.iload_n 3) := cf20_0.2.2.2.1
theorem f20_6 : zf 20 6 = some (.bipush 8) := cf20_0.2.2.2.2.1
theorem f20_8 : zf 20 8 = some (.if_icmp .lt 5) := cf20_0.2.2.2.2.2.1
theorem f20_11 : zf 20 11 = some (.iconst (-1)) := cf20_0.2.2.2.2.2.2.1
theorem f20_12 : zf 20 12 = some (.ireturn) := cf20_0.2.2.2.2.2.2.2.1
theorem f20_13 : zf 20 13 = some (.aload_n 0) := cf20_0.2.2.2.2.2.2.2.2.1
theorem f20_14 : zf 20 14 = some (.getfield 9) := cf20_0.2.2.2.2.2.2.2.2.2.1
theorem f20_17 : zf 20 17 = some (.iload_n 3) := cf20_0.2.2.2.2.2.2.2.2.2.2.1
theorem f20_18 : zf 20 18 = some (.iload_n 1) := cf20_0.2.2.2.2.2.2.2.2.2.2.2.1
theorem f20_19 : zf 20 19 = some (.iastore) := cf20_0.2.2.2.2.2.2.2.2.2.2.2.2.1
theorem f20_20 : zf 20 20 = some (.aload_n 0) := cf20_0.2.2.2.2.2.2.2.2.2.2.2.2.2.1
theorem f20_21 : zf 20 21 = some (.getfield 15) := cf20_0.2.2.2.2.2.2.2.2.2.2.2.2.2.2.1
theorem f20_24 : zf 20 24 = some (.iload_n 3) := cf20_0.2.2.2.2.2.2.2.2.2.2.2.2.2.2.2
theorem cf20_25 : zf 20 25 = some (.iload_n 2) ∧ zf 20 26 = some (.iastore) ∧ zf 20 27 = some (.aload_n 0) ∧ zf 20 28 = some (.getfield 18) ∧ zf 20 31 = some (.iload_n 3) ∧ zf 20 32 = some (.iload_n 1) ∧ zf 20 33 = some (.ifCond .eq 8) ∧ zf 20 36 = some (.iload_n 1) ∧ zf 20 37 = some (.iconst 2) ∧ zf 20 38 = some (.if_icmp .ne 7) ∧ zf 20 41 = some (.iconst 0) ∧ zf 20 42 = some (.goto 4) ∧ zf 20 45 = some (.iload_n 2) ∧ zf 20 46 = some (.iastore) ∧ zf 20 47 = some (.aload_n 0) ∧ zf 20 48 = some (.getfield 21) := by decide +kernel
theorem f20_25 : zf 20 25 = some (.iload_n 2) := cf20_25.1
theorem f20_26 : zf 20 26 = some (.iastore) := cf20_25.2.1
theorem f20_27 : zf 20 27 = some (.aload_n 0) := cf20_25.2.2.1
theorem f20_28 : zf 20 28 = some (.getfield 18) := cf20_25.2.2.2.1
theorem f20_31 : zf 20 31 = some (.iload_n 3) := cf20_25.2.2.2.2.1
theorem f20_32 : zf 20 32 = some (.iload_n 1) := cf20_25.2.2.2.2.2.1
theorem f20_33 : zf 20 33 = some (.ifCond .eq 8) := cf20_25.2.2.2.2.2.2.1
theorem f20_36 : zf 20 36 = some (.iload_n 1) := cf20_25.2.2.2.2.2.2.2.1
theorem f20_37 : zf 20 37 = some (.iconst 2) := cf20_25.2.2.2.2.2.2.2.2.1
theorem f20_38 : zf 20 38 = some (.if_icmp .ne 7) := cf20_25.2.2.2.2.2.2.2.2.2.1
theorem f20_41 : zf 20 41 = some (.iconst 0) := cf20_25.2.2.2.2.2.2.2.2.2.2.1
theorem f20_42 : zf 20 42 = some (.goto 4) := cf20_25.2.2.2.2.2.2.2.2.2.2.2.1
theorem f20_45 : zf 20 45 = some (.iload_n 2) := cf20_25.2.2.2.2.2.2.2.2.2.2.2.2.1
theorem f20_46 : zf 20 46 = some (.iastore) := cf20_25.2.2.2.2.2.2.2.2.2.2.2.2.2.1
theorem f20_47 : zf 20 47 = some (.aload_n 0) := cf20_25.2.2.2.2.2.2.2.2.2.2.2.2.2.2.1
theorem f20_48 : zf 20 48 = some (.getfield 21) := cf20_25.2.2.2.2.2.2.2.2.2.2.2.2.2.2.2
theorem cf20_51 : zf 20 51 = some (.iload_n 3) ∧ zf 20 52 = some (.iconst 0) ∧ zf 20 53 = some (.iastore) ∧ zf 20 54 = some (.aload_n 0) ∧ zf 20 55 = some (.getfield 24) ∧ zf 20 58 = some (.iload_n 3) ∧ zf 20 59 = some (.iconst (-1)) ∧ zf 20 60 = some (.iastore) ∧ zf 20 61 = some (.aload_n 0) ∧ zf 20 62 = some (.getfield 27) ∧ zf 20 65 = some (.iload_n 3) ∧ zf 20 66 = some (.iconst (-1)) ∧ zf 20 67 = some (.iastore) ∧ zf 20 68 = some (.aload_n 0) ∧ zf 20 69 = some (.getfield 30) ∧ zf 20 72 = some (.iload_n 3) := by decide +kernel
theorem f20_51 : zf 20 51 = some (.iload_n 3) := cf20_51.1
theorem f20_52 : zf 20 52 = some (.iconst 0) := cf20_51.2.1
theorem f20_53 : zf 20 53 = some (.iastore) := cf20_51.2.2.1
theorem f20_54 : zf 20 54 = some (.aload_n 0) := cf20_51.2.2.2.1
theorem f20_55 : zf 20 55 = some (.getfield 24) := cf20_51.2.2.2.2.1
theorem f20_58 : zf 20 58 = some (.iload_n 3) := cf20_51.2.2.2.2.2.1
theorem f20_59 : zf 20 59 = some (.iconst (-1)) := cf20_51.2.2.2.2.2.2.1
theorem f20_60 : zf 20 60 = some (.iastore) := cf20_51.2.2.2.2.2.2.2.1
theorem f20_61 : zf 20 61 = some (.aload_n 0) := cf20_51.2.2.2.2.2.2.2.2.1
theorem f20_62 : zf 20 62 = some (.getfield 27) := cf20_51.2.2.2.2.2.2.2.2.2.1
theorem f20_65 : zf 20 65 = some (.iload_n 3) := cf20_51.2.2.2.2.2.2.2.2.2.2.1
theorem f20_66 : zf 20 66 = some (.iconst (-1)) := cf20_51.2.2.2.2.2.2.2.2.2.2.2.1
theorem f20_67 : zf 20 67 = some (.iastore) := cf20_51.2.2.2.2.2.2.2.2.2.2.2.2.1
theorem f20_68 : zf 20 68 = some (.aload_n 0) := cf20_51.2.2.2.2.2.2.2.2.2.2.2.2.2.1
theorem f20_69 : zf 20 69 = some (.getfield 30) := cf20_51.2.2.2.2.2.2.2.2.2.2.2.2.2.2.1
theorem f20_72 : zf 20 72 = some (.iload_n 3) := cf20_51.2.2.2.2.2.2.2.2.2.2.2.2.2.2.2
theorem cf20_73 : zf 20 73 = some (.iconst (-1)) ∧ zf 20 74 = some (.iastore) ∧ zf 20 75 = some (.aload_n 0) ∧ zf 20 76 = some (.iload_n 3) ∧ zf 20 77 = some (.iconst 1) ∧ zf 20 78 = some (.iadd) ∧ zf 20 79 = some (.putfield 39) ∧ zf 20 82 = some (.iload_n 3) ∧ zf 20 83 = some (.ireturn) := by decide +kernel
theorem f20_73 : zf 20 73 = some (.iconst (-1)) := cf20_73.1
theorem f20_74 : zf 20 74 = some (.iastore) := cf20_73.2.1
theorem f20_75 : zf 20 75 = some (.aload_n 0) := cf20_73.2.2.1
theorem f20_76 : zf 20 76 = some (.iload_n 3) := cf20_73.2.2.2.1
theorem f20_77 : zf 20 77 = some (.iconst 1) := cf20_73.2.2.2.2.1
theorem f20_78 : zf 20 78 = some (.iadd) := cf20_73.2.2.2.2.2.1
theorem f20_79 : zf 20 79 = some (.putfield 39) := cf20_73.2.2.2.2.2.2.1
theorem f20_82 : zf 20 82 = some (.iload_n 3) := cf20_73.2.2.2.2.2.2.2.1
theorem f20_83 : zf 20 83 = some (.ireturn) := cf20_73.2.2.2.2.2.2.2.2
theorem cf21_0 : zf 21 0 = some (.aload_n 0) ∧ zf 21 1 = some (.getfield 43) ∧ zf 21 4 = some (.istore_n 3) ∧ zf 21 5 = some (.iload_n 3) ∧ zf 21 6 = some (.bipush 14) ∧ zf 21 8 = some (.if_icmp .lt 5) ∧ zf 21 11 = some (.iconst (-1)) ∧ zf 21 12 = some (.ireturn) ∧ zf 21 13 = some (.aload_n 0) ∧ zf 21 14 = some (.getfield 33) ∧ zf 21 17 = some (.iload_n 3) ∧ zf 21 18 = some (.iload_n 1) ∧ zf 21 19 = some (.iastore) ∧ zf 21 20 = some (.aload_n 0) ∧ zf 21 21 = some (.getfield 36) ∧ zf 21 24 = some (.iload_n 3) := by decide +kernel
theorem f21_0 : zf 21 0 = some (.aload_n 0) := cf21_0.1
theorem f21_1 : zf 21 1 = some (.getfield 43) := cf21_0.2.1
theorem f21_4 : zf 21 4 = some (.istore_n 3) := cf21_0.2.2.1
theorem f21_5 : zf 21 5 = some (.iload_n 3) := cf21_0.2.2.2.1
theorem f21_6 : zf 21 6 = some (.bipush 14) := cf21_0.2.2.2.2.1
theorem f21_8 : zf 21 8 = some (.if_icmp .lt 5) := cf21_0.2.2.2.2.2.1
theorem f21_11 : zf 21 11 = some (.iconst (-1)) := cf21_0.2.2.2.2.2.2.1
theorem f21_12 : zf 21 12 = some (.ireturn) := cf21_0.2.2.2.2.2.2.2.1
theorem f21_13 : zf 21 13 = some (.aload_n 0) := cf21_0.2.2.2.2.2.2.2.2.1
theorem f21_14 : zf 21 14 = some (.getfield 33) := cf21_0.2.2.2.2.2.2.2.2.2.1
theorem f21_17 : zf 21 17 = some (.iload_n 3) := cf21_0.2.2.2.2.2.2.2.2.2.2.1
theorem f21_18 : zf 21 18 = some (.iload_n 1) := cf21_0.2.2.2.2.2.2.2.2.2.2.2.1
theorem f21_19 : zf 21 19 = some (.iastore) := cf21_0.2.2.2.2.2.2.2.2.2.2.2.2.1
theorem f21_20 : zf 21 20 = some (.aload_n 0) := cf21_0.2.2.2.2.2.2.2.2.2.2.2.2.2.1
theorem f21_21 : zf 21 21 = some (.getfield 36) := cf21_0.2.2.2.2.2.2.2.2.2.2.2.2.2.2.1
theorem f21_24 : zf 21 24 = some (.iload_n 3) := cf21_0.2.2.2.2.2.2.2.2.2.2.2.2.2.2.2
theorem cf21_25 : zf 21 25 = some (.iload_n 2) ∧ zf 21 26 = some (.iastore) ∧ zf 21 27 = some (.aload_n 0) ∧ zf 21 28 = some (.iload_n 3) ∧ zf 21 29 = some (.iconst 1) ∧ zf 21 30 = some (.iadd) ∧ zf 21 31 = some (.putfield 43) ∧ zf 21 34 = some (.iload_n 3) ∧ zf 21 35 = some (.ireturn) := by decide +kernel
theorem f21_25 : zf 21 25 = some (.iload_n 2) := cf21_25.1
theorem f21_26 : zf 21 26 = some (.iastore) := cf21_25.2.1
theorem f21_27 : zf 21 27 = some (.aload_n 0) := cf21_25.2.2.1
theorem f21_28 : zf 21 28 = some (.iload_n 3) := cf21_25.2.2.2.1
theorem f21_29 : zf 21 29 = some (.iconst 1) := cf21_25.2.2.2.2.1
theorem f21_30 : zf 21 30 = some (.iadd) := cf21_25.2.2.2.2.2.1
theorem f21_31 : zf 21 31 = some (.putfield 43) := cf21_25.2.2.2.2.2.2.1
theorem f21_34 : zf 21 34 = some (.iload_n 3) := cf21_25.2.2.2.2.2.2.2.1
theorem f21_35 : zf 21 35 = some (.ireturn) := cf21_25.2.2.2.2.2.2.2.2
theorem cf22_0 : zf 22 0 = some (.iload_n 1) ∧ zf 22 1 = some (.ifCond .lt 9) ∧ zf 22 4 = some (.iload_n 1) ∧ zf 22 5 = some (.bipush 14) ∧ zf 22 7 = some (.if_icmp .lt 5) ∧ zf 22 10 = some (.iconst (-1)) ∧ zf 22 11 = some (.ireturn) ∧ zf 22 12 = some (.aload_n 0) ∧ zf 22 13 = some (.getfield 33) ∧ zf 22 16 = some (.iload_n 1) ∧ zf 22 17 = some (.iaload) ∧ zf 22 18 = some (.istore_n 2) ∧ zf 22 19 = some (.iload_n 2) ∧ zf 22 20 = some (.ifCond .lt 33) ∧ zf 22 23 = some (.iload_n 2) ∧ zf 22 24 = some (.bipush 8) := by decide +kernel
theorem f22_0 : zf 22 0 = some (.iload_n 1) := cf22_0.1
theorem f22_1 : zf 22 1 = some (.ifCond .lt 9) := cf22_0.2.1
theorem f22_4 : zf 22 4 = some (.iload_n 1) := cf22_0.2.2.1
theorem f22_5 : zf 22 5 = some (.bipush 14) := cf22_0.2.2.2.1
theorem f22_7 : zf 22 7 = some (.if_icmp .lt 5) := cf22_0.2.2.2.2.1
theorem f22_10 : zf 22 10 = some (.iconst (-1)) := cf22_0.2.2.2.2.2.1
theorem f22_11 : zf 22 11 = some (.ireturn) := cf22_0.2.2.2.2.2.2.1
theorem f22_12 : zf 22 12 = some (.aload_n 0) := cf22_0.2.2.2.2.2.2.2.1
theorem f22_13 : zf 22 13 = some (.getfield 33) := cf22_0.2.2.2.2.2.2.2.2.1
theorem f22_16 : zf 22 16 = some (.iload_n 1) := cf22_0.2.2.2.2.2.2.2.2.2.1
theorem f22_17 : zf 22 17 = some (.iaload) := cf22_0.2.2.2.2.2.2.2.2.2.2.1
theorem f22_18 : zf 22 18 = some (.istore_n 2) := cf22_0.2.2.2.2.2.2.2.2.2.2.2.1
theorem f22_19 : zf 22 19 = some (.iload_n 2) := cf22_0.2.2.2.2.2.2.2.2.2.2.2.2.1
theorem f22_20 : zf 22 20 = some (.ifCond .lt 33) := cf22_0.2.2.2.2.2.2.2.2.2.2.2.2.2.1
theorem f22_23 : zf 22 23 = some (.iload_n 2) := cf22_0.2.2.2.2.2.2.2.2.2.2.2.2.2.2.1
theorem f22_24 : zf 22 24 = some (.bipush 8) := cf22_0.2.2.2.2.2.2.2.2.2.2.2.2.2.2.2
theorem cf22_26 : zf 22 26 = some (.if_icmp .ge 27) ∧ zf 22 29 = some (.aload_n 0) ∧ zf 22 30 = some (.getfield 9) ∧ zf 22 33 = some (.iload_n 2) ∧ zf 22 34 = some (.iaload) ∧ zf 22 35 = some (.iconst 1) ∧ zf 22 36 = some (.if_icmp .ne 17) ∧ zf 22 39 = some (.aload_n 0) ∧ zf 22 40 = some (.getfield 24) ∧ zf 22 43 = some (.iload_n 2) ∧ zf 22 44 = some (.iaload) ∧ zf 22 45 = some (.iload_n 1) ∧ zf 22 46 = some (.if_icmp .ne 7) ∧ zf 22 49 = some (.iconst 1) ∧ zf 22 50 = some (.goto 4) ∧ zf 22 53 = some (.iconst 0) := by decide +kernel
theorem f22_26 : zf 22 26 = some (.if_icmp .ge 27) := cf22_26.1
theorem f22_29 : zf 22 29 = some (.aload_n 0) := cf22_26.2.1
theorem f22_30 : zf 22 30 = some (.getfield 9) := cf22_26.2.2.1
theorem f22_33 : zf 22 33 = some (.iload_n 2) := cf22_26.2.2.2.1
theorem f22_34 : zf 22 34 = some (.iaload) := cf22_26.2.2.2.2.1
theorem f22_35 : zf 22 35 = some (.iconst 1) := cf22_26.2.2.2.2.2.1
theorem f22_36 : zf 22 36 = some (.if_icmp .ne 17) := cf22_26.2.2.2.2.2.2.1
theorem f22_39 : zf 22 39 = some (.aload_n 0) := cf22_26.2.2.2.2.2.2.2.1
theorem f22_40 : zf 22 40 = some (.getfield 24) := cf22_26.2.2.2.2.2.2.2.2.1
theorem f22_43 : zf 22 43 = some (.iload_n 2) := cf22_26.2.2.2.2.2.2.2.2.2.1
theorem f22_44 : zf 22 44 = some (.iaload) := cf22_26.2.2.2.2.2.2.2.2.2.2.1
theorem f22_45 : zf 22 45 = some (.iload_n 1) := cf22_26.2.2.2.2.2.2.2.2.2.2.2.1
theorem f22_46 : zf 22 46 = some (.if_icmp .ne 7) := cf22_26.2.2.2.2.2.2.2.2.2.2.2.2.1
theorem f22_49 : zf 22 49 = some (.iconst 1) := cf22_26.2.2.2.2.2.2.2.2.2.2.2.2.2.1
theorem f22_50 : zf 22 50 = some (.goto 4) := cf22_26.2.2.2.2.2.2.2.2.2.2.2.2.2.2.1
theorem f22_53 : zf 22 53 = some (.iconst 0) := cf22_26.2.2.2.2.2.2.2.2.2.2.2.2.2.2.2
theorem cf22_54 : zf 22 54 = some (.istore_n 3) ∧ zf 22 55 = some (.iload_n 3) ∧ zf 22 56 = some (.ifCond .eq 7) ∧ zf 22 59 = some (.iload_n 2) ∧ zf 22 60 = some (.goto 4) ∧ zf 22 63 = some (.iconst (-1)) ∧ zf 22 64 = some (.ireturn) := by decide +kernel
theorem f22_54 : zf 22 54 = some (.istore_n 3) := cf22_54.1
theorem f22_55 : zf 22 55 = some (.iload_n 3) := cf22_54.2.1
theorem f22_56 : zf 22 56 = some (.ifCond .eq 7) := cf22_54.2.2.1
theorem f22_59 : zf 22 59 = some (.iload_n 2) := cf22_54.2.2.2.1
theorem f22_60 : zf 22 60 = some (.goto 4) := cf22_54.2.2.2.2.1
theorem f22_63 : zf 22 63 = some (.iconst (-1)) := cf22_54.2.2.2.2.2.1
theorem f22_64 : zf 22 64 = some (.ireturn) := cf22_54.2.2.2.2.2.2
theorem cf23_0 : zf 23 0 = some (.iload_n 2) ∧ zf 23 1 = some (.tableswitch 116 0 6 #[43, 50, 57, 76, 95, 102, 109]) ∧ zf 23 44 = some (.aload_n 0) ∧ zf 23 45 = some (.getfield 9) ∧ zf 23 48 = some (.iload_n 1) ∧ zf 23 49 = some (.iaload) ∧ zf 23 50 = some (.ireturn) ∧ zf 23 51 = some (.aload_n 0) ∧ zf 23 52 = some (.getfield 15) ∧ zf 23 55 = some (.iload_n 1) ∧ zf 23 56 = some (.iaload) ∧ zf 23 57 = some (.ireturn) ∧ zf 23 58 = some (.aload_n 0) ∧ zf 23 59 = some (.iload_n 1) ∧ zf 23 60 = some (.invokevirtual 57) ∧ zf 23 63 = some (.ifCond .eq 12) := by decide +kernel
theorem f23_0 : zf 23 0 = some (.iload_n 2) := cf23_0.1
theorem f23_1 : zf 23 1 = some (.tableswitch 116 0 6 #[43, 50, 57, 76, 95, 102, 109]) := cf23_0.2.1
theorem f23_44 : zf 23 44 = some (.aload_n 0) := cf23_0.2.2.1
theorem f23_45 : zf 23 45 = some (.getfield 9) := cf23_0.2.2.2.1
theorem f23_48 : zf 23 48 = some (.iload_n 1) := cf23_0.2.2.2.2.1
theorem f23_49 : zf 23 49 = some (.iaload) := cf23_0.2.2.2.2.2.1
theorem f23_50 : zf 23 50 = some (.ireturn) := cf23_0.2.2.2.2.2.2.1
theorem f23_51 : zf 23 51 = some (.aload_n 0) := cf23_0.2.2.2.2.2.2.2.1
theorem f23_52 : zf 23 52 = some (.getfield 15) := cf23_0.2.2.2.2.2.2.2.2.1
theorem f23_55 : zf 23 55 = some (.iload_n 1) := cf23_0.2.2.2.2.2.2.2.2.2.1
theorem f23_56 : zf 23 56 = some (.iaload) := cf23_0.2.2.2.2.2.2.2.2.2.2.1
theorem f23_57 : zf 23 57 = some (.ireturn) := cf23_0.2.2.2.2.2.2.2.2.2.2.2.1
theorem f23_58 : zf 23 58 = some (.aload_n 0) := cf23_0.2.2.2.2.2.2.2.2.2.2.2.2.1
theorem f23_59 : zf 23 59 = some (.iload_n 1) := cf23_0.2.2.2.2.2.2.2.2.2.2.2.2.2.1
theorem f23_60 : zf 23 60 = some (.invokevirtual 57) := cf23_0.2.2.2.2.2.2.2.2.2.2.2.2.2.2.1
theorem f23_63 : zf 23 63 = some (.ifCond .eq 12) := cf23_0.2.2.2.2.2.2.2.2.2.2.2.2.2.2.2
theorem cf23_66 : zf 23 66 = some (.aload_n 0) ∧ zf 23 67 = some (.getfield 18) ∧ zf 23 70 = some (.iload_n 1) ∧ zf 23 71 = some (.iaload) ∧ zf 23 72 = some (.goto 4) ∧ zf 23 75 = some (.iconst (-1)) ∧ zf 23 76 = some (.ireturn) ∧ zf 23 77 = some (.aload_n 0) ∧ zf 23 78 = some (.iload_n 1) ∧ zf 23 79 = some (.invokevirtual 54) ∧ zf 23 82 = some (.ifCond .eq 12) ∧ zf 23 85 = some (.aload_n 0) ∧ zf 23 86 = some (.getfield 21) ∧ zf 23 89 = some (.iload_n 1) ∧ zf 23 90 = some (.iaload) ∧ zf 23 91 = some (.goto 4) := by decide +kernel
theorem f23_66 : zf 23 66 = some (.aload_n 0) := cf23_66.1
theorem f23_67 : zf 23 67 = some (.getfield 18) := cf23_66.2.1
theorem f23_70 : zf 23 70 = some (.iload_n 1) := cf23_66.2.2.1
theorem f23_71 : zf 23 71 = some (.iaload) := cf23_66.2.2.2.1
theorem f23_72 : zf 23 72 = some (.goto 4) := cf23_66.2.2.2.2.1
theorem f23_75 : zf 23 75 = some (.iconst (-1)) := cf23_66.2.2.2.2.2.1
theorem f23_76 : zf 23 76 = some (.ireturn) := cf23_66.2.2.2.2.2.2.1
theorem f23_77 : zf 23 77 = some (.aload_n 0) := cf23_66.2.2.2.2.2.2.2.1
theorem f23_78 : zf 23 78 = some (.iload_n 1) := cf23_66.2.2.2.2.2.2.2.2.1
theorem f23_79 : zf 23 79 = some (.invokevirtual 54) := cf23_66.2.2.2.2.2.2.2.2.2.1
theorem f23_82 : zf 23 82 = some (.ifCond .eq 12) := cf23_66.2.2.2.2.2.2.2.2.2.2.1
theorem f23_85 : zf 23 85 = some (.aload_n 0) := cf23_66.2.2.2.2.2.2.2.2.2.2.2.1
theorem f23_86 : zf 23 86 = some (.getfield 21) := cf23_66.2.2.2.2.2.2.2.2.2.2.2.2.1
theorem f23_89 : zf 23 89 = some (.iload_n 1) := cf23_66.2.2.2.2.2.2.2.2.2.2.2.2.2.1
theorem f23_90 : zf 23 90 = some (.iaload) := cf23_66.2.2.2.2.2.2.2.2.2.2.2.2.2.2.1
theorem f23_91 : zf 23 91 = some (.goto 4) := cf23_66.2.2.2.2.2.2.2.2.2.2.2.2.2.2.2
theorem cf23_94 : zf 23 94 = some (.iconst (-1)) ∧ zf 23 95 = some (.ireturn) ∧ zf 23 96 = some (.aload_n 0) ∧ zf 23 97 = some (.getfield 24) ∧ zf 23 100 = some (.iload_n 1) ∧ zf 23 101 = some (.iaload) ∧ zf 23 102 = some (.ireturn) ∧ zf 23 103 = some (.aload_n 0) ∧ zf 23 104 = some (.getfield 27) ∧ zf 23 107 = some (.iload_n 1) ∧ zf 23 108 = some (.iaload) ∧ zf 23 109 = some (.ireturn) ∧ zf 23 110 = some (.aload_n 0) ∧ zf 23 111 = some (.getfield 30) ∧ zf 23 114 = some (.iload_n 1) ∧ zf 23 115 = some (.iaload) := by decide +kernel
theorem f23_94 : zf 23 94 = some (.iconst (-1)) := cf23_94.1
theorem f23_95 : zf 23 95 = some (.ireturn) := cf23_94.2.1
theorem f23_96 : zf 23 96 = some (.aload_n 0) := cf23_94.2.2.1
theorem f23_97 : zf 23 97 = some (.getfield 24) := cf23_94.2.2.2.1
theorem f23_100 : zf 23 100 = some (.iload_n 1) := cf23_94.2.2.2.2.1
theorem f23_101 : zf 23 101 = some (.iaload) := cf23_94.2.2.2.2.2.1
theorem f23_102 : zf 23 102 = some (.ireturn) := cf23_94.2.2.2.2.2.2.1
theorem f23_103 : zf 23 103 = some (.aload_n 0) := cf23_94.2.2.2.2.2.2.2.1
theorem f23_104 : zf 23 104 = some (.getfield 27) := cf23_94.2.2.2.2.2.2.2.2.1
theorem f23_107 : zf 23 107 = some (.iload_n 1) := cf23_94.2.2.2.2.2.2.2.2.2.1
theorem f23_108 : zf 23 108 = some (.iaload) := cf23_94.2.2.2.2.2.2.2.2.2.2.1
theorem f23_109 : zf 23 109 = some (.ireturn) := cf23_94.2.2.2.2.2.2.2.2.2.2.2.1
theorem f23_110 : zf 23 110 = some (.aload_n 0) := cf23_94.2.2.2.2.2.2.2.2.2.2.2.2.1
theorem f23_111 : zf 23 111 = some (.getfield 30) := cf23_94.2.2.2.2.2.2.2.2.2.2.2.2.2.1
theorem f23_114 : zf 23 114 = some (.iload_n 1) := cf23_94.2.2.2.2.2.2.2.2.2.2.2.2.2.2.1
theorem f23_115 : zf 23 115 = some (.iaload) := cf23_94.2.2.2.2.2.2.2.2.2.2.2.2.2.2.2
theorem cf23_116 : zf 23 116 = some (.ireturn) ∧ zf 23 117 = some (.iconst (-1)) ∧ zf 23 118 = some (.ireturn) := by decide +kernel
theorem f23_116 : zf 23 116 = some (.ireturn) := cf23_116.1
theorem f23_117 : zf 23 117 = some (.iconst (-1)) := cf23_116.2.1
theorem f23_118 : zf 23 118 = some (.ireturn) := cf23_116.2.2
theorem cf24_0 : zf 24 0 = some (.aload_n 0) ∧ zf 24 1 = some (.invokespecial 3) ∧ zf 24 4 = some (.aload_n 0) ∧ zf 24 5 = some (.sipush 151) ∧ zf 24 8 = some (.newarray .long) ∧ zf 24 10 = some (.putfield 11) ∧ zf 24 13 = some (.aload_n 0) ∧ zf 24 14 = some (.sipush 151) ∧ zf 24 17 = some (.newarray .long) ∧ zf 24 19 = some (.putfield 15) ∧ zf 24 22 = some (.aload_n 0) ∧ zf 24 23 = some (.sipush 151) ∧ zf 24 26 = some (.newarray .int) ∧ zf 24 28 = some (.putfield 18) ∧ zf 24 31 = some (.aload_n 0) ∧ zf 24 32 = some (.sipush 151) := by decide +kernel
theorem f24_0 : zf 24 0 = some (.aload_n 0) := cf24_0.1
theorem f24_1 : zf 24 1 = some (.invokespecial 3) := cf24_0.2.1
theorem f24_4 : zf 24 4 = some (.aload_n 0) := cf24_0.2.2.1
theorem f24_5 : zf 24 5 = some (.sipush 151) := cf24_0.2.2.2.1
theorem f24_8 : zf 24 8 = some (.newarray .long) := cf24_0.2.2.2.2.1
theorem f24_10 : zf 24 10 = some (.putfield 11) := cf24_0.2.2.2.2.2.1
theorem f24_13 : zf 24 13 = some (.aload_n 0) := cf24_0.2.2.2.2.2.2.1
theorem f24_14 : zf 24 14 = some (.sipush 151) := cf24_0.2.2.2.2.2.2.2.1
theorem f24_17 : zf 24 17 = some (.newarray .long) := cf24_0.2.2.2.2.2.2.2.2.1
theorem f24_19 : zf 24 19 = some (.putfield 15) := cf24_0.2.2.2.2.2.2.2.2.2.1
theorem f24_22 : zf 24 22 = some (.aload_n 0) := cf24_0.2.2.2.2.2.2.2.2.2.2.1
theorem f24_23 : zf 24 23 = some (.sipush 151) := cf24_0.2.2.2.2.2.2.2.2.2.2.2.1
theorem f24_26 : zf 24 26 = some (.newarray .int) := cf24_0.2.2.2.2.2.2.2.2.2.2.2.2.1
theorem f24_28 : zf 24 28 = some (.putfield 18) := cf24_0.2.2.2.2.2.2.2.2.2.2.2.2.2.1
theorem f24_31 : zf 24 31 = some (.aload_n 0) := cf24_0.2.2.2.2.2.2.2.2.2.2.2.2.2.2.1
theorem f24_32 : zf 24 32 = some (.sipush 151) := cf24_0.2.2.2.2.2.2.2.2.2.2.2.2.2.2.2
theorem cf24_35 : zf 24 35 = some (.newarray .int) ∧ zf 24 37 = some (.putfield 22) ∧ zf 24 40 = some (.aload_n 0) ∧ zf 24 41 = some (.sipush 1208) ∧ zf 24 44 = some (.newarray .long) ∧ zf 24 46 = some (.putfield 25) ∧ zf 24 49 = some (.return_) := by decide +kernel
theorem f24_35 : zf 24 35 = some (.newarray .int) := cf24_35.1
theorem f24_37 : zf 24 37 = some (.putfield 22) := cf24_35.2.1
theorem f24_40 : zf 24 40 = some (.aload_n 0) := cf24_35.2.2.1
theorem f24_41 : zf 24 41 = some (.sipush 1208) := cf24_35.2.2.2.1
theorem f24_44 : zf 24 44 = some (.newarray .long) := cf24_35.2.2.2.2.1
theorem f24_46 : zf 24 46 = some (.putfield 25) := cf24_35.2.2.2.2.2.1
theorem f24_49 : zf 24 49 = some (.return_) := cf24_35.2.2.2.2.2.2
theorem cf25_0 : zf 25 0 = some (.aload_n 0) ∧ zf 25 1 = some (.iconst 0) ∧ zf 25 2 = some (.aload_n 1) ∧ zf 25 3 = some (.getfield 28) ∧ zf 25 6 = some (.invokevirtual 34) ∧ zf 25 9 = some (.iconst 1) ∧ zf 25 10 = some (.istore_n 2) ∧ zf 25 11 = some (.iload_n 2) ∧ zf 25 12 = some (.sipush 151) ∧ zf 25 15 = some (.if_icmp .ge 67) ∧ zf 25 18 = some (.aload_n 1) ∧ zf 25 19 = some (.invokevirtual 38) ∧ zf 25 22 = some (.aload_n 1) ∧ zf 25 23 = some (.invokevirtual 41) ∧ zf 25 26 = some (.ifCond .eq 5) ∧ zf 25 29 = some (.iconst 0) := by decide +kernel
theorem f25_0 : zf 25 0 = some (.aload_n 0) := cf25_0.1
theorem f25_1 : zf 25 1 = some (.iconst 0) := cf25_0.2.1
theorem f25_2 : zf 25 2 = some (.aload_n 1) := cf25_0.2.2.1
theorem f25_3 : zf 25 3 = some (.getfield 28) := cf25_0.2.2.2.1
theorem f25_6 : zf 25 6 = some (.invokevirtual 34) := cf25_0.2.2.2.2.1
theorem f25_9 : zf 25 9 = some (.iconst 1) := cf25_0.2.2.2.2.2.1
theorem f25_10 : zf 25 10 = some (.istore_n 2) := cf25_0.2.2.2.2.2.2.1
theorem f25_11 : zf 25 11 = some (.iload_n 2) := cf25_0.2.2.2.2.2.2.2.1
theorem f25_12 : zf 25 12 = some (.sipush 151) := cf25_0.2.2.2.2.2.2.2.2.1
theorem f25_15 : zf 25 15 = some (.if_icmp .ge 67) := cf25_0.2.2.2.2.2.2.2.2.2.1
theorem f25_18 : zf 25 18 = some (.aload_n 1) := cf25_0.2.2.2.2.2.2.2.2.2.2.1
theorem f25_19 : zf 25 19 = some (.invokevirtual 38) := cf25_0.2.2.2.2.2.2.2.2.2.2.2.1
theorem f25_22 : zf 25 22 = some (.aload_n 1) := cf25_0.2.2.2.2.2.2.2.2.2.2.2.2.1
theorem f25_23 : zf 25 23 = some (.invokevirtual 41) := cf25_0.2.2.2.2.2.2.2.2.2.2.2.2.2.1
theorem f25_26 : zf 25 26 = some (.ifCond .eq 5) := cf25_0.2.2.2.2.2.2.2.2.2.2.2.2.2.2.1
theorem f25_29 : zf 25 29 = some (.iconst 0) := cf25_0.2.2.2.2.2.2.2.2.2.2.2.2.2.2.2
theorem cf25_30 : zf 25 30 = some (.ireturn) ∧ zf 25 31 = some (.aload_n 1) ∧ zf 25 32 = some (.invokevirtual 45) ∧ zf 25 35 = some (.ifCond .ne 6) ∧ zf 25 38 = some (.bipush (-2)) ∧ zf 25 40 = some (.ireturn) ∧ zf 25 41 = some (.aload_n 0) ∧ zf 25 42 = some (.aload_n 1) ∧ zf 25 43 = some (.getfield 28) ∧ zf 25 46 = some (.iload_n 2) ∧ zf 25 47 = some (.invokevirtual 48) ∧ zf 25 50 = some (.istore_n 3) ∧ zf 25 51 = some (.iload_n 3) ∧ zf 25 52 = some (.iconst (-1)) ∧ zf 25 53 = some (.if_icmp .eq 14) ∧ zf 25 56 = some (.aload_n 0) := by decide +kernel
theorem f25_30 : zf 25 30 = some (.ireturn) := cf25_30.1
theorem f25_31 : zf 25 31 = some (.aload_n 1) := cf25_30.2.1
theorem f25_32 : zf 25 32 = some (.invokevirtual 45) := cf25_30.2.2.1
theorem f25_35 : zf 25 35 = some (.ifCond .ne 6) := cf25_30.2.2.2.1
theorem f25_38 : zf 25 38 = some (.bipush (-2)) := cf25_30.2.2.2.2.1
theorem f25_40 : zf 25 40 = some (.ireturn) := cf25_30.2.2.2.2.2.1
theorem f25_41 : zf 25 41 = some (.aload_n 0) := cf25_30.2.2.2.2.2.2.1
theorem f25_42 : zf 25 42 = some (.aload_n 1) := cf25_30.2.2.2.2.2.2.2.1
theorem f25_43 : zf 25 43 = some (.getfield 28) := cf25_30.2.2.2.2.2.2.2.2.1
theorem f25_46 : zf 25 46 = some (.iload_n 2) := cf25_30.2.2.2.2.2.2.2.2.2.1
theorem f25_47 : zf 25 47 = some (.invokevirtual 48) := cf25_30.2.2.2.2.2.2.2.2.2.2.1
theorem f25_50 : zf 25 50 = some (.istore_n 3) := cf25_30.2.2.2.2.2.2.2.2.2.2.2.1
theorem f25_51 : zf 25 51 = some (.iload_n 3) := cf25_30.2.2.2.2.2.2.2.2.2.2.2.2.1
theorem f25_52 : zf 25 52 = some (.iconst (-1)) := cf25_30.2.2.2.2.2.2.2.2.2.2.2.2.2.1
theorem f25_53 : zf 25 53 = some (.if_icmp .eq 14) := cf25_30.2.2.2.2.2.2.2.2.2.2.2.2.2.2.1
theorem f25_56 : zf 25 56 = some (.aload_n 0) := cf25_30.2.2.2.2.2.2.2.2.2.2.2.2.2.2.2
theorem cf25_57 : zf 25 57 = some (.iload_n 3) ∧ zf 25 58 = some (.aload_n 1) ∧ zf 25 59 = some (.getfield 28) ∧ zf 25 62 = some (.invokevirtual 52) ∧ zf 25 65 = some (.iconst 1) ∧ zf 25 66 = some (.ireturn) ∧ zf 25 67 = some (.aload_n 0) ∧ zf 25 68 = some (.iload_n 2) ∧ zf 25 69 = some (.aload_n 1) ∧ zf 25 70 = some (.getfield 28) ∧ zf 25 73 = some (.invokevirtual 34) ∧ zf 25 76 = some (.iinc 2 1) ∧ zf 25 79 = some (.goto (-68)) ∧ zf 25 82 = some (.aload_n 1) ∧ zf 25 83 = some (.invokevirtual 38) ∧ zf 25 86 = some (.aload_n 1) := by decide +kernel
theorem f25_57 : zf 25 57 = some (.iload_n 3) := cf25_57.1
theorem f25_58 : zf 25 58 = some (.aload_n 1) := cf25_57.2.1
theorem f25_59 : zf 25 59 = some (.getfield 28) := cf25_57.2.2.1
theorem f25_62 : zf 25 62 = some (.invokevirtual 52) := cf25_57.2.2.2.1
theorem f25_65 : zf 25 65 = some (.iconst 1) := cf25_57.2.2.2.2.1
theorem f25_66 : zf 25 66 = some (.ireturn) := cf25_57.2.2.2.2.2.1
theorem f25_67 : zf 25 67 = some (.aload_n 0) := cf25_57.2.2.2.2.2.2.1
theorem f25_68 : zf 25 68 = some (.iload_n 2) := cf25_57.2.2.2.2.2.2.2.1
theorem f25_69 : zf 25 69 = some (.aload_n 1) := cf25_57.2.2.2.2.2.2.2.2.1
theorem f25_70 : zf 25 70 = some (.getfield 28) := cf25_57.2.2.2.2.2.2.2.2.2.1
theorem f25_73 : zf 25 73 = some (.invokevirtual 34) := cf25_57.2.2.2.2.2.2.2.2.2.2.1
theorem f25_76 : zf 25 76 = some (.iinc 2 1) := cf25_57.2.2.2.2.2.2.2.2.2.2.2.1
theorem f25_79 : zf 25 79 = some (.goto (-68)) := cf25_57.2.2.2.2.2.2.2.2.2.2.2.2.1
theorem f25_82 : zf 25 82 = some (.aload_n 1) := cf25_57.2.2.2.2.2.2.2.2.2.2.2.2.2.1
theorem f25_83 : zf 25 83 = some (.invokevirtual 38) := cf25_57.2.2.2.2.2.2.2.2.2.2.2.2.2.2.1
theorem f25_86 : zf 25 86 = some (.aload_n 1) := cf25_57.2.2.2.2.2.2.2.2.2.2.2.2.2.2.2
theorem cf25_87 : zf 25 87 = some (.invokevirtual 41) ∧ zf 25 90 = some (.ifCond .eq 7) ∧ zf 25 93 = some (.iconst 0) ∧ zf 25 94 = some (.goto 5) ∧ zf 25 97 = some (.bipush (-2)) ∧ zf 25 99 = some (.ireturn) := by decide +kernel
theorem f25_87 : zf 25 87 = some (.invokevirtual 41) := cf25_87.1
theorem f25_90 : zf 25 90 = some (.ifCond .eq 7) := cf25_87.2.1
theorem f25_93 : zf 25 93 = some (.iconst 0) := cf25_87.2.2.1
theorem f25_94 : zf 25 94 = some (.goto 5) := cf25_87.2.2.2.1
theorem f25_97 : zf 25 97 = some (.bipush (-2)) := cf25_87.2.2.2.2.1
theorem f25_99 : zf 25 99 = some (.ireturn) := cf25_87.2.2.2.2.2
theorem cf26_0 : zf 26 0 = some (.iload_n 1) ∧ zf 26 1 = some (.tableswitch 83 1 4 #[31, 44, 57, 70]) ∧ zf 26 32 = some (.aload_n 0) ∧ zf 26 33 = some (.getfield 55) ∧ zf 26 36 = some (.aload_n 0) ∧ zf 26 37 = some (.getfield 59) ∧ zf 26 40 = some (.invokestatic 62) ∧ zf 26 43 = some (.l2i) ∧ zf 26 44 = some (.ireturn) ∧ zf 26 45 = some (.aload_n 0) ∧ zf 26 46 = some (.getfield 55) ∧ zf 26 49 = some (.aload_n 0) ∧ zf 26 50 = some (.getfield 59) ∧ zf 26 53 = some (.invokestatic 66) ∧ zf 26 56 = some (.l2i) ∧ zf 26 57 = some (.ireturn) := by decide +kernel
theorem f26_0 : zf 26 0 = some (.iload_n 1) := cf26_0.1
theorem f26_1 : zf 26 1 = some (.tableswitch 83 1 4 #[31, 44, 57, 70]) := cf26_0.2.1
theorem f26_32 : zf 26 32 = some (.aload_n 0) := cf26_0.2.2.1
theorem f26_33 : zf 26 33 = some (.getfield 55) := cf26_0.2.2.2.1
theorem f26_36 : zf 26 36 = some (.aload_n 0) := cf26_0.2.2.2.2.1
theorem f26_37 : zf 26 37 = some (.getfield 59) := cf26_0.2.2.2.2.2.1
theorem f26_40 : zf 26 40 = some (.invokestatic 62) := cf26_0.2.2.2.2.2.2.1
theorem f26_43 : zf 26 43 = some (.l2i) := cf26_0.2.2.2.2.2.2.2.1
theorem f26_44 : zf 26 44 = some (.ireturn) := cf26_0.2.2.2.2.2.2.2.2.1
theorem f26_45 : zf 26 45 = some (.aload_n 0) := cf26_0.2.2.2.2.2.2.2.2.2.1
theorem f26_46 : zf 26 46 = some (.getfield 55) := cf26_0.2.2.2.2.2.2.2.2.2.2.1
theorem f26_49 : zf 26 49 = some (.aload_n 0) := cf26_0.2.2.2.2.2.2.2.2.2.2.2.1
theorem f26_50 : zf 26 50 = some (.getfield 59) := cf26_0.2.2.2.2.2.2.2.2.2.2.2.2.1
theorem f26_53 : zf 26 53 = some (.invokestatic 66) := cf26_0.2.2.2.2.2.2.2.2.2.2.2.2.2.1
theorem f26_56 : zf 26 56 = some (.l2i) := cf26_0.2.2.2.2.2.2.2.2.2.2.2.2.2.2.1
theorem f26_57 : zf 26 57 = some (.ireturn) := cf26_0.2.2.2.2.2.2.2.2.2.2.2.2.2.2.2
theorem cf26_58 : zf 26 58 = some (.aload_n 0) ∧ zf 26 59 = some (.getfield 69) ∧ zf 26 62 = some (.aload_n 0) ∧ zf 26 63 = some (.getfield 72) ∧ zf 26 66 = some (.invokestatic 62) ∧ zf 26 69 = some (.l2i) ∧ zf 26 70 = some (.ireturn) ∧ zf 26 71 = some (.aload_n 0) ∧ zf 26 72 = some (.getfield 69) ∧ zf 26 75 = some (.aload_n 0) ∧ zf 26 76 = some (.getfield 72) ∧ zf 26 79 = some (.invokestatic 66) ∧ zf 26 82 = some (.l2i) ∧ zf 26 83 = some (.ireturn) ∧ zf 26 84 = some (.iconst (-1)) ∧ zf 26 85 = some (.ireturn) := by decide +kernel
theorem f26_58 : zf 26 58 = some (.aload_n 0) := cf26_58.1
theorem f26_59 : zf 26 59 = some (.getfield 69) := cf26_58.2.1
theorem f26_62 : zf 26 62 = some (.aload_n 0) := cf26_58.2.2.1
theorem f26_63 : zf 26 63 = some (.getfield 72) := cf26_58.2.2.2.1
theorem f26_66 : zf 26 66 = some (.invokestatic 62) := cf26_58.2.2.2.2.1
theorem f26_69 : zf 26 69 = some (.l2i) := cf26_58.2.2.2.2.2.1
theorem f26_70 : zf 26 70 = some (.ireturn) := cf26_58.2.2.2.2.2.2.1
theorem f26_71 : zf 26 71 = some (.aload_n 0) := cf26_58.2.2.2.2.2.2.2.1
theorem f26_72 : zf 26 72 = some (.getfield 69) := cf26_58.2.2.2.2.2.2.2.2.1
theorem f26_75 : zf 26 75 = some (.aload_n 0) := cf26_58.2.2.2.2.2.2.2.2.2.1
theorem f26_76 : zf 26 76 = some (.getfield 72) := cf26_58.2.2.2.2.2.2.2.2.2.2.1
theorem f26_79 : zf 26 79 = some (.invokestatic 66) := cf26_58.2.2.2.2.2.2.2.2.2.2.2.1
theorem f26_82 : zf 26 82 = some (.l2i) := cf26_58.2.2.2.2.2.2.2.2.2.2.2.2.1
theorem f26_83 : zf 26 83 = some (.ireturn) := cf26_58.2.2.2.2.2.2.2.2.2.2.2.2.2.1
theorem f26_84 : zf 26 84 = some (.iconst (-1)) := cf26_58.2.2.2.2.2.2.2.2.2.2.2.2.2.2.1
theorem f26_85 : zf 26 85 = some (.ireturn) := cf26_58.2.2.2.2.2.2.2.2.2.2.2.2.2.2.2
theorem cf27_0 : zf 27 0 = some (.iload_n 1) ∧ zf 27 1 = some (.ifCond .lt 10) ∧ zf 27 4 = some (.iload_n 1) ∧ zf 27 5 = some (.sipush 151) ∧ zf 27 8 = some (.if_icmp .lt 4) ∧ zf 27 11 = some (.return_) ∧ zf 27 12 = some (.aload_n 0) ∧ zf 27 13 = some (.getfield 11) ∧ zf 27 16 = some (.iload_n 1) ∧ zf 27 17 = some (.aload_n 2) ∧ zf 27 18 = some (.getfield 75) ∧ zf 27 21 = some (.lastore) ∧ zf 27 22 = some (.aload_n 0) ∧ zf 27 23 = some (.getfield 15) ∧ zf 27 26 = some (.iload_n 1) ∧ zf 27 27 = some (.aload_n 2) := by decide +kernel
theorem f27_0 : zf 27 0 = some (.iload_n 1) := cf27_0.1
theorem f27_1 : zf 27 1 = some (.ifCond .lt 10) := cf27_0.2.1
theorem f27_4 : zf 27 4 = some (.iload_n 1) := cf27_0.2.2.1
theorem f27_5 : zf 27 5 = some (.sipush 151) := cf27_0.2.2.2.1
theorem f27_8 : zf 27 8 = some (.if_icmp .lt 4) := cf27_0.2.2.2.2.1
theorem f27_11 : zf 27 11 = some (.return_) := cf27_0.2.2.2.2.2.1
theorem f27_12 : zf 27 12 = some (.aload_n 0) := cf27_0.2.2.2.2.2.2.1
theorem f27_13 : zf 27 13 = some (.getfield 11) := cf27_0.2.2.2.2.2.2.2.1
theorem f27_16 : zf 27 16 = some (.iload_n 1) := cf27_0.2.2.2.2.2.2.2.2.1
theorem f27_17 : zf 27 17 = some (.aload_n 2) := cf27_0.2.2.2.2.2.2.2.2.2.1
theorem f27_18 : zf 27 18 = some (.getfield 75) := cf27_0.2.2.2.2.2.2.2.2.2.2.1
theorem f27_21 : zf 27 21 = some (.lastore) := cf27_0.2.2.2.2.2.2.2.2.2.2.2.1
theorem f27_22 : zf 27 22 = some (.aload_n 0) := cf27_0.2.2.2.2.2.2.2.2.2.2.2.2.1
theorem f27_23 : zf 27 23 = some (.getfield 15) := cf27_0.2.2.2.2.2.2.2.2.2.2.2.2.2.1
theorem f27_26 : zf 27 26 = some (.iload_n 1) := cf27_0.2.2.2.2.2.2.2.2.2.2.2.2.2.2.1
theorem f27_27 : zf 27 27 = some (.aload_n 2) := cf27_0.2.2.2.2.2.2.2.2.2.2.2.2.2.2.2
theorem cf27_28 : zf 27 28 = some (.getfield 80) ∧ zf 27 31 = some (.lastore) ∧ zf 27 32 = some (.aload_n 0) ∧ zf 27 33 = some (.getfield 18) ∧ zf 27 36 = some (.iload_n 1) ∧ zf 27 37 = some (.aload_n 2) ∧ zf 27 38 = some (.getfield 83) ∧ zf 27 41 = some (.iastore) ∧ zf 27 42 = some (.aload_n 0) ∧ zf 27 43 = some (.getfield 22) ∧ zf 27 46 = some (.iload_n 1) ∧ zf 27 47 = some (.aload_n 2) ∧ zf 27 48 = some (.getfield 86) ∧ zf 27 51 = some (.iastore) ∧ zf 27 52 = some (.aload_n 2) ∧ zf 27 53 = some (.getfield 89) := by decide +kernel
theorem f27_28 : zf 27 28 = some (.getfield 80) := cf27_28.1
theorem f27_31 : zf 27 31 = some (.lastore) := cf27_28.2.1
theorem f27_32 : zf 27 32 = some (.aload_n 0) := cf27_28.2.2.1
theorem f27_33 : zf 27 33 = some (.getfield 18) := cf27_28.2.2.2.1
theorem f27_36 : zf 27 36 = some (.iload_n 1) := cf27_28.2.2.2.2.1
theorem f27_37 : zf 27 37 = some (.aload_n 2) := cf27_28.2.2.2.2.2.1
theorem f27_38 : zf 27 38 = some (.getfield 83) := cf27_28.2.2.2.2.2.2.1
theorem f27_41 : zf 27 41 = some (.iastore) := cf27_28.2.2.2.2.2.2.2.1
theorem f27_42 : zf 27 42 = some (.aload_n 0) := cf27_28.2.2.2.2.2.2.2.2.1
theorem f27_43 : zf 27 43 = some (.getfield 22) := cf27_28.2.2.2.2.2.2.2.2.2.1
theorem f27_46 : zf 27 46 = some (.iload_n 1) := cf27_28.2.2.2.2.2.2.2.2.2.2.1
theorem f27_47 : zf 27 47 = some (.aload_n 2) := cf27_28.2.2.2.2.2.2.2.2.2.2.2.1
theorem f27_48 : zf 27 48 = some (.getfield 86) := cf27_28.2.2.2.2.2.2.2.2.2.2.2.2.1
theorem f27_51 : zf 27 51 = some (.iastore) := cf27_28.2.2.2.2.2.2.2.2.2.2.2.2.2.1
theorem f27_52 : zf 27 52 = some (.aload_n 2) := cf27_28.2.2.2.2.2.2.2.2.2.2.2.2.2.2.1
theorem f27_53 : zf 27 53 = some (.getfield 89) := cf27_28.2.2.2.2.2.2.2.2.2.2.2.2.2.2.2
theorem cf27_56 : zf 27 56 = some (.iconst 0) ∧ zf 27 57 = some (.aload_n 0) ∧ zf 27 58 = some (.getfield 25) ∧ zf 27 61 = some (.iload_n 1) ∧ zf 27 62 = some (.bipush 8) ∧ zf 27 64 = some (.imul) ∧ zf 27 65 = some (.bipush 8) ∧ zf 27 67 = some (.invokestatic 90) ∧ zf 27 70 = some (.return_) := by decide +kernel
theorem f27_56 : zf 27 56 = some (.iconst 0) := cf27_56.1
theorem f27_57 : zf 27 57 = some (.aload_n 0) := cf27_56.2.1
theorem f27_58 : zf 27 58 = some (.getfield 25) := cf27_56.2.2.1
theorem f27_61 : zf 27 61 = some (.iload_n 1) := cf27_56.2.2.2.1
theorem f27_62 : zf 27 62 = some (.bipush 8) := cf27_56.2.2.2.2.1
theorem f27_64 : zf 27 64 = some (.imul) := cf27_56.2.2.2.2.2.1
theorem f27_65 : zf 27 65 = some (.bipush 8) := cf27_56.2.2.2.2.2.2.1
theorem f27_67 : zf 27 67 = some (.invokestatic 90) := cf27_56.2.2.2.2.2.2.2.1
theorem f27_70 : zf 27 70 = some (.return_) := cf27_56.2.2.2.2.2.2.2.2
theorem cf28_0 : zf 28 0 = some (.iconst 0) ∧ zf 28 1 = some (.istore_n 3) ∧ zf 28 2 = some (.iload_n 3) ∧ zf 28 3 = some (.iload_n 2) ∧ zf 28 4 = some (.if_icmp .ge 27) ∧ zf 28 7 = some (.iload_n 3) ∧ zf 28 8 = some (.sipush 151) ∧ zf 28 11 = some (.if_icmp .ge 20) ∧ zf 28 14 = some (.aload_n 0) ∧ zf 28 15 = some (.iload_n 3) ∧ zf 28 16 = some (.aload_n 1) ∧ zf 28 17 = some (.invokevirtual 96) ∧ zf 28 20 = some (.ifCond .eq 5) ∧ zf 28 23 = some (.iload_n 3) ∧ zf 28 24 = some (.ireturn) ∧ zf 28 25 = some (.iinc 3 1) := by decide +kernel
theorem f28_0 : zf 28 0 = some (.iconst 0) := cf28_0.1
theorem f28_1 : zf 28 1 = some (.istore_n 3) := cf28_0.2.1
theorem f28_2 : zf 28 2 = some (.iload_n 3) := cf28_0.2.2.1
theorem f28_3 : zf 28 3 = some (.iload_n 2) := cf28_0.2.2.2.1
theorem f28_4 : zf 28 4 = some (.if_icmp .ge 27) := cf28_0.2.2.2.2.1
theorem f28_7 : zf 28 7 = some (.iload_n 3) := cf28_0.2.2.2.2.2.1
theorem f28_8 : zf 28 8 = some (.sipush 151) := cf28_0.2.2.2.2.2.2.1
theorem f28_11 : zf 28 11 = some (.if_icmp .ge 20) := cf28_0.2.2.2.2.2.2.2.1
theorem f28_14 : zf 28 14 = some (.aload_n 0) := cf28_0.2.2.2.2.2.2.2.2.1
theorem f28_15 : zf 28 15 = some (.iload_n 3) := cf28_0.2.2.2.2.2.2.2.2.2.1
theorem f28_16 : zf 28 16 = some (.aload_n 1) := cf28_0.2.2.2.2.2.2.2.2.2.2.1
theorem f28_17 : zf 28 17 = some (.invokevirtual 96) := cf28_0.2.2.2.2.2.2.2.2.2.2.2.1
theorem f28_20 : zf 28 20 = some (.ifCond .eq 5) := cf28_0.2.2.2.2.2.2.2.2.2.2.2.2.1
theorem f28_23 : zf 28 23 = some (.iload_n 3) := cf28_0.2.2.2.2.2.2.2.2.2.2.2.2.2.1
theorem f28_24 : zf 28 24 = some (.ireturn) := cf28_0.2.2.2.2.2.2.2.2.2.2.2.2.2.2.1
theorem f28_25 : zf 28 25 = some (.iinc 3 1) := cf28_0.2.2.2.2.2.2.2.2.2.2.2.2.2.2.2
theorem cf28_28 : zf 28 28 = some (.goto (-26)) ∧ zf 28 31 = some (.iconst (-1)) ∧ zf 28 32 = some (.ireturn) := by decide +kernel
theorem f28_28 : zf 28 28 = some (.goto (-26)) := cf28_28.1
theorem f28_31 : zf 28 31 = some (.iconst (-1)) := cf28_28.2.1
theorem f28_32 : zf 28 32 = some (.ireturn) := cf28_28.2.2
theorem cf29_0 : zf 29 0 = some (.aload_n 0) ∧ zf 29 1 = some (.getfield 18) ∧ zf 29 4 = some (.iload_n 1) ∧ zf 29 5 = some (.iaload) ∧ zf 29 6 = some (.aload_n 2) ∧ zf 29 7 = some (.getfield 83) ∧ zf 29 10 = some (.if_icmp .ne 16) ∧ zf 29 13 = some (.aload_n 0) ∧ zf 29 14 = some (.getfield 22) ∧ zf 29 17 = some (.iload_n 1) ∧ zf 29 18 = some (.iaload) ∧ zf 29 19 = some (.aload_n 2) ∧ zf 29 20 = some (.getfield 86) ∧ zf 29 23 = some (.if_icmp .eq 5) ∧ zf 29 26 = some (.iconst 0) ∧ zf 29 27 = some (.ireturn) := by decide +kernel
theorem f29_0 : zf 29 0 = some (.aload_n 0) := cf29_0.1
theorem f29_1 : zf 29 1 = some (.getfield 18) := cf29_0.2.1
theorem f29_4 : zf 29 4 = some (.iload_n 1) := cf29_0.2.2.1
theorem f29_5 : zf 29 5 = some (.iaload) := cf29_0.2.2.2.1
theorem f29_6 : zf 29 6 = some (.aload_n 2) := cf29_0.2.2.2.2.1
theorem f29_7 : zf 29 7 = some (.getfield 83) := cf29_0.2.2.2.2.2.1
theorem f29_10 : zf 29 10 = some (.if_icmp .ne 16) := cf29_0.2.2.2.2.2.2.1
theorem f29_13 : zf 29 13 = some (.aload_n 0) := cf29_0.2.2.2.2.2.2.2.1
theorem f29_14 : zf 29 14 = some (.getfield 22) := cf29_0.2.2.2.2.2.2.2.2.1
theorem f29_17 : zf 29 17 = some (.iload_n 1) := cf29_0.2.2.2.2.2.2.2.2.2.1
theorem f29_18 : zf 29 18 = some (.iaload) := cf29_0.2.2.2.2.2.2.2.2.2.2.1
theorem f29_19 : zf 29 19 = some (.aload_n 2) := cf29_0.2.2.2.2.2.2.2.2.2.2.2.1
theorem f29_20 : zf 29 20 = some (.getfield 86) := cf29_0.2.2.2.2.2.2.2.2.2.2.2.2.1
theorem f29_23 : zf 29 23 = some (.if_icmp .eq 5) := cf29_0.2.2.2.2.2.2.2.2.2.2.2.2.2.1
theorem f29_26 : zf 29 26 = some (.iconst 0) := cf29_0.2.2.2.2.2.2.2.2.2.2.2.2.2.2.1
theorem f29_27 : zf 29 27 = some (.ireturn) := cf29_0.2.2.2.2.2.2.2.2.2.2.2.2.2.2.2
theorem cf29_28 : zf 29 28 = some (.iconst 0) ∧ zf 29 29 = some (.istore_n 3) ∧ zf 29 30 = some (.iload_n 3) ∧ zf 29 31 = some (.bipush 8) ∧ zf 29 33 = some (.if_icmp .ge 44) ∧ zf 29 36 = some (.aload_n 0) ∧ zf 29 37 = some (.getfield 25) ∧ zf 29 40 = some (.iload_n 1) ∧ zf 29 41 = some (.bipush 8) ∧ zf 29 43 = some (.imul) ∧ zf 29 44 = some (.iload_n 3) ∧ zf 29 45 = some (.iadd) ∧ zf 29 46 = some (.laload) ∧ zf 29 47 = some (.aload_n 2) ∧ zf 29 48 = some (.getfield 75) ∧ zf 29 51 = some (.lmul) := by decide +kernel
theorem f29_28 : zf 29 28 = some (.iconst 0) := cf29_28.1
theorem f29_29 : zf 29 29 = some (.istore_n 3) := cf29_28.2.1
theorem f29_30 : zf 29 30 = some (.iload_n 3) := cf29_28.2.2.1
theorem f29_31 : zf 29 31 = some (.bipush 8) := cf29_28.2.2.2.1
theorem f29_33 : zf 29 33 = some (.if_icmp .ge 44) := cf29_28.2.2.2.2.1
theorem f29_36 : zf 29 36 = some (.aload_n 0) := cf29_28.2.2.2.2.2.1
theorem f29_37 : zf 29 37 = some (.getfield 25) := cf29_28.2.2.2.2.2.2.1
theorem f29_40 : zf 29 40 = some (.iload_n 1) := cf29_28.2.2.2.2.2.2.2.1
theorem f29_41 : zf 29 41 = some (.bipush 8) := cf29_28.2.2.2.2.2.2.2.2.1
theorem f29_43 : zf 29 43 = some (.imul) := cf29_28.2.2.2.2.2.2.2.2.2.1
theorem f29_44 : zf 29 44 = some (.iload_n 3) := cf29_28.2.2.2.2.2.2.2.2.2.2.1
theorem f29_45 : zf 29 45 = some (.iadd) := cf29_28.2.2.2.2.2.2.2.2.2.2.2.1
theorem f29_46 : zf 29 46 = some (.laload) := cf29_28.2.2.2.2.2.2.2.2.2.2.2.2.1
theorem f29_47 : zf 29 47 = some (.aload_n 2) := cf29_28.2.2.2.2.2.2.2.2.2.2.2.2.2.1
theorem f29_48 : zf 29 48 = some (.getfield 75) := cf29_28.2.2.2.2.2.2.2.2.2.2.2.2.2.2.1
theorem f29_51 : zf 29 51 = some (.lmul) := cf29_28.2.2.2.2.2.2.2.2.2.2.2.2.2.2.2
theorem cf29_52 : zf 29 52 = some (.aload_n 2) ∧ zf 29 53 = some (.getfield 89) ∧ zf 29 56 = some (.iload_n 3) ∧ zf 29 57 = some (.laload) ∧ zf 29 58 = some (.aload_n 0) ∧ zf 29 59 = some (.getfield 11) ∧ zf 29 62 = some (.iload_n 1) ∧ zf 29 63 = some (.laload) ∧ zf 29 64 = some (.lmul) ∧ zf 29 65 = some (.lcmp) ∧ zf 29 66 = some (.ifCond .eq 5) ∧ zf 29 69 = some (.iconst 0) ∧ zf 29 70 = some (.ireturn) ∧ zf 29 71 = some (.iinc 3 1) ∧ zf 29 74 = some (.goto (-44)) ∧ zf 29 77 = some (.iconst 1) := by decide +kernel
theorem f29_52 : zf 29 52 = some (.aload_n 2) := cf29_52.1
theorem f29_53 : zf 29 53 = some (.getfield 89) := cf29_52.2.1
theorem f29_56 : zf 29 56 = some (.iload_n 3) := cf29_52.2.2.1
theorem f29_57 : zf 29 57 = some (.laload) := cf29_52.2.2.2.1
theorem f29_58 : zf 29 58 = some (.aload_n 0) := cf29_52.2.2.2.2.1
theorem f29_59 : zf 29 59 = some (.getfield 11) := cf29_52.2.2.2.2.2.1
theorem f29_62 : zf 29 62 = some (.iload_n 1) := cf29_52.2.2.2.2.2.2.1
theorem f29_63 : zf 29 63 = some (.laload) := cf29_52.2.2.2.2.2.2.2.1
theorem f29_64 : zf 29 64 = some (.lmul) := cf29_52.2.2.2.2.2.2.2.2.1
theorem f29_65 : zf 29 65 = some (.lcmp) := cf29_52.2.2.2.2.2.2.2.2.2.1
theorem f29_66 : zf 29 66 = some (.ifCond .eq 5) := cf29_52.2.2.2.2.2.2.2.2.2.2.1
theorem f29_69 : zf 29 69 = some (.iconst 0) := cf29_52.2.2.2.2.2.2.2.2.2.2.2.1
theorem f29_70 : zf 29 70 = some (.ireturn) := cf29_52.2.2.2.2.2.2.2.2.2.2.2.2.1
theorem f29_71 : zf 29 71 = some (.iinc 3 1) := cf29_52.2.2.2.2.2.2.2.2.2.2.2.2.2.1
theorem f29_74 : zf 29 74 = some (.goto (-44)) := cf29_52.2.2.2.2.2.2.2.2.2.2.2.2.2.2.1
theorem f29_77 : zf 29 77 = some (.iconst 1) := cf29_52.2.2.2.2.2.2.2.2.2.2.2.2.2.2.2
theorem f29_78 : zf 29 78 = some (.ireturn) := by decide +kernel
theorem cf30_0 : zf 30 0 = some (.aload_n 0) ∧ zf 30 1 = some (.aload_n 0) ∧ zf 30 2 = some (.getfield 15) ∧ zf 30 5 = some (.iload_n 1) ∧ zf 30 6 = some (.laload) ∧ zf 30 7 = some (.putfield 55) ∧ zf 30 10 = some (.aload_n 0) ∧ zf 30 11 = some (.aload_n 0) ∧ zf 30 12 = some (.getfield 11) ∧ zf 30 15 = some (.iload_n 1) ∧ zf 30 16 = some (.laload) ∧ zf 30 17 = some (.putfield 59) ∧ zf 30 20 = some (.aload_n 0) ∧ zf 30 21 = some (.aload_n 2) ∧ zf 30 22 = some (.getfield 80) ∧ zf 30 25 = some (.aload_n 0) := by decide +kernel
theorem f30_0 : zf 30 0 = some (.aload_n 0) := cf30_0.1
theorem f30_1 : zf 30 1 = some (.aload_n 0) := cf30_0.2.1
theorem f30_2 : zf 30 2 = some (.getfield 15) := cf30_0.2.2.1
theorem f30_5 : zf 30 5 = some (.iload_n 1) := cf30_0.2.2.2.1
theorem f30_6 : zf 30 6 = some (.laload) := cf30_0.2.2.2.2.1
theorem f30_7 : zf 30 7 = some (.putfield 55) := cf30_0.2.2.2.2.2.1
theorem f30_10 : zf 30 10 = some (.aload_n 0) := cf30_0.2.2.2.2.2.2.1
theorem f30_11 : zf 30 11 = some (.aload_n 0) := cf30_0.2.2.2.2.2.2.2.1
theorem f30_12 : zf 30 12 = some (.getfield 11) := cf30_0.2.2.2.2.2.2.2.2.1
theorem f30_15 : zf 30 15 = some (.iload_n 1) := cf30_0.2.2.2.2.2.2.2.2.2.1
theorem f30_16 : zf 30 16 = some (.laload) := cf30_0.2.2.2.2.2.2.2.2.2.2.1
theorem f30_17 : zf 30 17 = some (.putfield 59) := cf30_0.2.2.2.2.2.2.2.2.2.2.2.1
theorem f30_20 : zf 30 20 = some (.aload_n 0) := cf30_0.2.2.2.2.2.2.2.2.2.2.2.2.1
theorem f30_21 : zf 30 21 = some (.aload_n 2) := cf30_0.2.2.2.2.2.2.2.2.2.2.2.2.2.1
theorem f30_22 : zf 30 22 = some (.getfield 80) := cf30_0.2.2.2.2.2.2.2.2.2.2.2.2.2.2.1
theorem f30_25 : zf 30 25 = some (.aload_n 0) := cf30_0.2.2.2.2.2.2.2.2.2.2.2.2.2.2.2
theorem cf30_26 : zf 30 26 = some (.getfield 59) ∧ zf 30 29 = some (.lmul) ∧ zf 30 30 = some (.aload_n 0) ∧ zf 30 31 = some (.getfield 55) ∧ zf 30 34 = some (.aload_n 2) ∧ zf 30 35 = some (.getfield 75) ∧ zf 30 38 = some (.lmul) ∧ zf 30 39 = some (.lsub) ∧ zf 30 40 = some (.putfield 69) ∧ zf 30 43 = some (.aload_n 0) ∧ zf 30 44 = some (.aload_n 2) ∧ zf 30 45 = some (.getfield 75) ∧ zf 30 48 = some (.aload_n 0) ∧ zf 30 49 = some (.getfield 59) ∧ zf 30 52 = some (.lmul) ∧ zf 30 53 = some (.putfield 72) := by decide +kernel
theorem f30_26 : zf 30 26 = some (.getfield 59) := cf30_26.1
theorem f30_29 : zf 30 29 = some (.lmul) := cf30_26.2.1
theorem f30_30 : zf 30 30 = some (.aload_n 0) := cf30_26.2.2.1
theorem f30_31 : zf 30 31 = some (.getfield 55) := cf30_26.2.2.2.1
theorem f30_34 : zf 30 34 = some (.aload_n 2) := cf30_26.2.2.2.2.1
theorem f30_35 : zf 30 35 = some (.getfield 75) := cf30_26.2.2.2.2.2.1
theorem f30_38 : zf 30 38 = some (.lmul) := cf30_26.2.2.2.2.2.2.1
theorem f30_39 : zf 30 39 = some (.lsub) := cf30_26.2.2.2.2.2.2.2.1
theorem f30_40 : zf 30 40 = some (.putfield 69) := cf30_26.2.2.2.2.2.2.2.2.1
theorem f30_43 : zf 30 43 = some (.aload_n 0) := cf30_26.2.2.2.2.2.2.2.2.2.1
theorem f30_44 : zf 30 44 = some (.aload_n 2) := cf30_26.2.2.2.2.2.2.2.2.2.2.1
theorem f30_45 : zf 30 45 = some (.getfield 75) := cf30_26.2.2.2.2.2.2.2.2.2.2.2.1
theorem f30_48 : zf 30 48 = some (.aload_n 0) := cf30_26.2.2.2.2.2.2.2.2.2.2.2.2.1
theorem f30_49 : zf 30 49 = some (.getfield 59) := cf30_26.2.2.2.2.2.2.2.2.2.2.2.2.2.1
theorem f30_52 : zf 30 52 = some (.lmul) := cf30_26.2.2.2.2.2.2.2.2.2.2.2.2.2.2.1
theorem f30_53 : zf 30 53 = some (.putfield 72) := cf30_26.2.2.2.2.2.2.2.2.2.2.2.2.2.2.2
theorem f30_56 : zf 30 56 = some (.return_) := by decide +kernel
theorem cf31_0 : zf 31 0 = some (.aload_n 0) ∧ zf 31 1 = some (.aload_n 1) ∧ zf 31 2 = some (.invokespecial 1) ∧ zf 31 5 = some (.return_) := by decide +kernel
theorem f31_0 : zf 31 0 = some (.aload_n 0) := cf31_0.1
theorem f31_1 : zf 31 1 = some (.aload_n 1) := cf31_0.2.1
theorem f31_2 : zf 31 2 = some (.invokespecial 1) := cf31_0.2.2.1
theorem f31_5 : zf 31 5 = some (.return_) := cf31_0.2.2.2
theorem cf32_0 : zf 32 0 = some (.aload_n 0) ∧ zf 32 1 = some (.getfield 7) ∧ zf 32 4 = some (.bipush 20) ∧ zf 32 6 = some (.invokevirtual 13) ∧ zf 32 9 = some (.aload_n 0) ∧ zf 32 10 = some (.iload_n 1) ∧ zf 32 11 = some (.invokespecial 19) ∧ zf 32 14 = some (.aload_n 0) ∧ zf 32 15 = some (.getfield 7) ∧ zf 32 18 = some (.getfield 23) ∧ zf 32 21 = some (.iadd) ∧ zf 32 22 = some (.ireturn) := by decide +kernel
theorem f32_0 : zf 32 0 = some (.aload_n 0) := cf32_0.1
theorem f32_1 : zf 32 1 = some (.getfield 7) := cf32_0.2.1
theorem f32_4 : zf 32 4 = some (.bipush 20) := cf32_0.2.2.1
theorem f32_6 : zf 32 6 = some (.invokevirtual 13) := cf32_0.2.2.2.1
theorem f32_9 : zf 32 9 = some (.aload_n 0) := cf32_0.2.2.2.2.1
theorem f32_10 : zf 32 10 = some (.iload_n 1) := cf32_0.2.2.2.2.2.1
theorem f32_11 : zf 32 11 = some (.invokespecial 19) := cf32_0.2.2.2.2.2.2.1
theorem f32_14 : zf 32 14 = some (.aload_n 0) := cf32_0.2.2.2.2.2.2.2.1
theorem f32_15 : zf 32 15 = some (.getfield 7) := cf32_0.2.2.2.2.2.2.2.2.1
theorem f32_18 : zf 32 18 = some (.getfield 23) := cf32_0.2.2.2.2.2.2.2.2.2.1
theorem f32_21 : zf 32 21 = some (.iadd) := cf32_0.2.2.2.2.2.2.2.2.2.2.1
theorem f32_22 : zf 32 22 = some (.ireturn) := cf32_0.2.2.2.2.2.2.2.2.2.2.2
theorem cf33_0 : zf 33 0 = some (.aload_n 0) ∧ zf 33 1 = some (.getfield 7) ∧ zf 33 4 = some (.bipush 21) ∧ zf 33 6 = some (.invokevirtual 13) ∧ zf 33 9 = some (.aload_n 0) ∧ zf 33 10 = some (.iload_n 1) ∧ zf 33 11 = some (.iconst 2) ∧ zf 33 12 = some (.imul) ∧ zf 33 13 = some (.invokespecial 27) ∧ zf 33 16 = some (.ireturn) := by decide +kernel
theorem f33_0 : zf 33 0 = some (.aload_n 0) := cf33_0.1
theorem f33_1 : zf 33 1 = some (.getfield 7) := cf33_0.2.1
theorem f33_4 : zf 33 4 = some (.bipush 21) := cf33_0.2.2.1
theorem f33_6 : zf 33 6 = some (.invokevirtual 13) := cf33_0.2.2.2.1
theorem f33_9 : zf 33 9 = some (.aload_n 0) := cf33_0.2.2.2.2.1
theorem f33_10 : zf 33 10 = some (.iload_n 1) := cf33_0.2.2.2.2.2.1
theorem f33_11 : zf 33 11 = some (.iconst 2) := cf33_0.2.2.2.2.2.2.1
theorem f33_12 : zf 33 12 = some (.imul) := cf33_0.2.2.2.2.2.2.2.1
theorem f33_13 : zf 33 13 = some (.invokespecial 27) := cf33_0.2.2.2.2.2.2.2.2.1
theorem f33_16 : zf 33 16 = some (.ireturn) := cf33_0.2.2.2.2.2.2.2.2.2
theorem cf34_0 : zf 34 0 = some (.aload_n 0) ∧ zf 34 1 = some (.aload_n 1) ∧ zf 34 2 = some (.invokespecial 1) ∧ zf 34 5 = some (.return_) := by decide +kernel
theorem f34_0 : zf 34 0 = some (.aload_n 0) := cf34_0.1
theorem f34_1 : zf 34 1 = some (.aload_n 1) := cf34_0.2.1
theorem f34_2 : zf 34 2 = some (.invokespecial 1) := cf34_0.2.2.1
theorem f34_5 : zf 34 5 = some (.return_) := cf34_0.2.2.2
theorem cf35_0 : zf 35 0 = some (.aload_n 0) ∧ zf 35 1 = some (.getfield 7) ∧ zf 35 4 = some (.bipush 30) ∧ zf 35 6 = some (.invokevirtual 13) ∧ zf 35 9 = some (.aload_n 0) ∧ zf 35 10 = some (.iload_n 1) ∧ zf 35 11 = some (.invokespecial 19) ∧ zf 35 14 = some (.iconst 2) ∧ zf 35 15 = some (.imul) ∧ zf 35 16 = some (.ireturn) := by decide +kernel
theorem f35_0 : zf 35 0 = some (.aload_n 0) := cf35_0.1
theorem f35_1 : zf 35 1 = some (.getfield 7) := cf35_0.2.1
theorem f35_4 : zf 35 4 = some (.bipush 30) := cf35_0.2.2.1
theorem f35_6 : zf 35 6 = some (.invokevirtual 13) := cf35_0.2.2.2.1
theorem f35_9 : zf 35 9 = some (.aload_n 0) := cf35_0.2.2.2.2.1
theorem f35_10 : zf 35 10 = some (.iload_n 1) := cf35_0.2.2.2.2.2.1
theorem f35_11 : zf 35 11 = some (.invokespecial 19) := cf35_0.2.2.2.2.2.2.1
theorem f35_14 : zf 35 14 = some (.iconst 2) := cf35_0.2.2.2.2.2.2.2.1
theorem f35_15 : zf 35 15 = some (.imul) := cf35_0.2.2.2.2.2.2.2.2.1
theorem f35_16 : zf 35 16 = some (.ireturn) := cf35_0.2.2.2.2.2.2.2.2.2
theorem cf36_0 : zf 36 0 = some (.aload_n 0) ∧ zf 36 1 = some (.invokespecial 1) ∧ zf 36 4 = some (.aload_n 0) ∧ zf 36 5 = some (.aload_n 1) ∧ zf 36 6 = some (.putfield 7) ∧ zf 36 9 = some (.return_) := by decide +kernel
theorem f36_0 : zf 36 0 = some (.aload_n 0) := cf36_0.1
theorem f36_1 : zf 36 1 = some (.invokespecial 1) := cf36_0.2.1
theorem f36_4 : zf 36 4 = some (.aload_n 0) := cf36_0.2.2.1
theorem f36_5 : zf 36 5 = some (.aload_n 1) := cf36_0.2.2.2.1
theorem f36_6 : zf 36 6 = some (.putfield 7) := cf36_0.2.2.2.2.1
theorem f36_9 : zf 36 9 = some (.return_) := cf36_0.2.2.2.2.2
theorem cf37_0 : zf 37 0 = some (.aload_n 0) ∧ zf 37 1 = some (.getfield 7) ∧ zf 37 4 = some (.bipush 10) ∧ zf 37 6 = some (.invokevirtual 13) ∧ zf 37 9 = some (.iload_n 1) ∧ zf 37 10 = some (.aload_n 0) ∧ zf 37 11 = some (.getfield 7) ∧ zf 37 14 = some (.getfield 19) ∧ zf 37 17 = some (.iadd) ∧ zf 37 18 = some (.ireturn) := by decide +kernel
theorem f37_0 : zf 37 0 = some (.aload_n 0) := cf37_0.1
theorem f37_1 : zf 37 1 = some (.getfield 7) := cf37_0.2.1
theorem f37_4 : zf 37 4 = some (.bipush 10) := cf37_0.2.2.1
theorem f37_6 : zf 37 6 = some (.invokevirtual 13) := cf37_0.2.2.2.1
theorem f37_9 : zf 37 9 = some (.iload_n 1) := cf37_0.2.2.2.2.1
theorem f37_10 : zf 37 10 = some (.aload_n 0) := cf37_0.2.2.2.2.2.1
theorem f37_11 : zf 37 11 = some (.getfield 7) := cf37_0.2.2.2.2.2.2.1
theorem f37_14 : zf 37 14 = some (.getfield 19) := cf37_0.2.2.2.2.2.2.2.1
theorem f37_17 : zf 37 17 = some (.iadd) := cf37_0.2.2.2.2.2.2.2.2.1
theorem f37_18 : zf 37 18 = some (.ireturn) := cf37_0.2.2.2.2.2.2.2.2.2
theorem cf38_0 : zf 38 0 = some (.aload_n 0) ∧ zf 38 1 = some (.getfield 7) ∧ zf 38 4 = some (.bipush 11) ∧ zf 38 6 = some (.invokevirtual 13) ∧ zf 38 9 = some (.aload_n 0) ∧ zf 38 10 = some (.iload_n 1) ∧ zf 38 11 = some (.invokevirtual 23) ∧ zf 38 14 = some (.iconst 3) ∧ zf 38 15 = some (.imul) ∧ zf 38 16 = some (.ireturn) := by decide +kernel
theorem f38_0 : zf 38 0 = some (.aload_n 0) := cf38_0.1
theorem f38_1 : zf 38 1 = some (.getfield 7) := cf38_0.2.1
theorem f38_4 : zf 38 4 = some (.bipush 11) := cf38_0.2.2.1
theorem f38_6 : zf 38 6 = some (.invokevirtual 13) := cf38_0.2.2.2.1
theorem f38_9 : zf 38 9 = some (.aload_n 0) := cf38_0.2.2.2.2.1
theorem f38_10 : zf 38 10 = some (.iload_n 1) := cf38_0.2.2.2.2.2.1
theorem f38_11 : zf 38 11 = some (.invokevirtual 23) := cf38_0.2.2.2.2.2.2.1
theorem f38_14 : zf 38 14 = some (.iconst 3) := cf38_0.2.2.2.2.2.2.2.1
theorem f38_15 : zf 38 15 = some (.imul) := cf38_0.2.2.2.2.2.2.2.2.1
theorem f38_16 : zf 38 16 = some (.ireturn) := cf38_0.2.2.2.2.2.2.2.2.2
theorem cf39_0 : zf 39 0 = some (.aload_n 0) ∧ zf 39 1 = some (.getfield 7) ∧ zf 39 4 = some (.bipush 12) ∧ zf 39 6 = some (.invokevirtual 13) ∧ zf 39 9 = some (.iload_n 1) ∧ zf 39 10 = some (.aload_n 0) ∧ zf 39 11 = some (.getfield 7) ∧ zf 39 14 = some (.getfield 19) ∧ zf 39 17 = some (.ixor) ∧ zf 39 18 = some (.ireturn) := by decide +kernel
theorem f39_0 : zf 39 0 = some (.aload_n 0) := cf39_0.1
theorem f39_1 : zf 39 1 = some (.getfield 7) := cf39_0.2.1
theorem f39_4 : zf 39 4 = some (.bipush 12) := cf39_0.2.2.1
theorem f39_6 : zf 39 6 = some (.invokevirtual 13) := cf39_0.2.2.2.1
theorem f39_9 : zf 39 9 = some (.iload_n 1) := cf39_0.2.2.2.2.1
theorem f39_10 : zf 39 10 = some (.aload_n 0) := cf39_0.2.2.2.2.2.1
theorem f39_11 : zf 39 11 = some (.getfield 7) := cf39_0.2.2.2.2.2.2.1
theorem f39_14 : zf 39 14 = some (.getfield 19) := cf39_0.2.2.2.2.2.2.2.1
theorem f39_17 : zf 39 17 = some (.ixor) := cf39_0.2.2.2.2.2.2.2.2.1
theorem f39_18 : zf 39 18 = some (.ireturn) := cf39_0.2.2.2.2.2.2.2.2.2
theorem cf40_0 : zf 40 0 = some (.aload_n 0) ∧ zf 40 1 = some (.getfield 7) ∧ zf 40 4 = some (.bipush 13) ∧ zf 40 6 = some (.invokevirtual 13) ∧ zf 40 9 = some (.aload_n 0) ∧ zf 40 10 = some (.iload_n 1) ∧ zf 40 11 = some (.invokevirtual 27) ∧ zf 40 14 = some (.aload_n 0) ∧ zf 40 15 = some (.iload_n 1) ∧ zf 40 16 = some (.invokevirtual 30) ∧ zf 40 19 = some (.isub) ∧ zf 40 20 = some (.ireturn) := by decide +kernel
theorem f40_0 : zf 40 0 = some (.aload_n 0) := cf40_0.1
theorem f40_1 : zf 40 1 = some (.getfield 7) := cf40_0.2.1
theorem f40_4 : zf 40 4 = some (.bipush 13) := cf40_0.2.2.1
theorem f40_6 : zf 40 6 = some (.invokevirtual 13) := cf40_0.2.2.2.1
theorem f40_9 : zf 40 9 = some (.aload_n 0) := cf40_0.2.2.2.2.1
theorem f40_10 : zf 40 10 = some (.iload_n 1) := cf40_0.2.2.2.2.2.1
theorem f40_11 : zf 40 11 = some (.invokevirtual 27) := cf40_0.2.2.2.2.2.2.1
theorem f40_14 : zf 40 14 = some (.aload_n 0) := cf40_0.2.2.2.2.2.2.2.1
theorem f40_15 : zf 40 15 = some (.iload_n 1) := cf40_0.2.2.2.2.2.2.2.2.1
theorem f40_16 : zf 40 16 = some (.invokevirtual 30) := cf40_0.2.2.2.2.2.2.2.2.2.1
theorem f40_19 : zf 40 19 = some (.isub) := cf40_0.2.2.2.2.2.2.2.2.2.2.1
theorem f40_20 : zf 40 20 = some (.ireturn) := cf40_0.2.2.2.2.2.2.2.2.2.2.2
theorem cf41_0 : zf 41 0 = some (.aload_n 0) ∧ zf 41 1 = some (.invokespecial 3) ∧ zf 41 4 = some (.aload_n 0) ∧ zf 41 5 = some (.lconst 1) ∧ zf 41 6 = some (.putfield 9) ∧ zf 41 9 = some (.aload_n 0) ∧ zf 41 10 = some (.bipush 8) ∧ zf 41 12 = some (.newarray .long) ∧ zf 41 14 = some (.putfield 15) ∧ zf 41 17 = some (.aload_n 0) ∧ zf 41 18 = some (.bipush 8) ∧ zf 41 20 = some (.newarray .int) ∧ zf 41 22 = some (.putfield 19) ∧ zf 41 25 = some (.aload_n 0) ∧ zf 41 26 = some (.bipush 14) ∧ zf 41 28 = some (.newarray .int) := by decide +kernel
theorem f41_0 : zf 41 0 = some (.aload_n 0) := cf41_0.1
theorem f41_1 : zf 41 1 = some (.invokespecial 3) := cf41_0.2.1
theorem f41_4 : zf 41 4 = some (.aload_n 0) := cf41_0.2.2.1
theorem f41_5 : zf 41 5 = some (.lconst 1) := cf41_0.2.2.2.1
theorem f41_6 : zf 41 6 = some (.putfield 9) := cf41_0.2.2.2.2.1
theorem f41_9 : zf 41 9 = some (.aload_n 0) := cf41_0.2.2.2.2.2.1
theorem f41_10 : zf 41 10 = some (.bipush 8) := cf41_0.2.2.2.2.2.2.1
theorem f41_12 : zf 41 12 = some (.newarray .long) := cf41_0.2.2.2.2.2.2.2.1
theorem f41_14 : zf 41 14 = some (.putfield 15) := cf41_0.2.2.2.2.2.2.2.2.1
theorem f41_17 : zf 41 17 = some (.aload_n 0) := cf41_0.2.2.2.2.2.2.2.2.2.1
theorem f41_18 : zf 41 18 = some (.bipush 8) := cf41_0.2.2.2.2.2.2.2.2.2.2.1
theorem f41_20 : zf 41 20 = some (.newarray .int) := cf41_0.2.2.2.2.2.2.2.2.2.2.2.1
theorem f41_22 : zf 41 22 = some (.putfield 19) := cf41_0.2.2.2.2.2.2.2.2.2.2.2.2.1
theorem f41_25 : zf 41 25 = some (.aload_n 0) := cf41_0.2.2.2.2.2.2.2.2.2.2.2.2.2.1
theorem f41_26 : zf 41 26 = some (.bipush 14) := cf41_0.2.2.2.2.2.2.2.2.2.2.2.2.2.2.1
theorem f41_28 : zf 41 28 = some (.newarray .int) := cf41_0.2.2.2.2.2.2.2.2.2.2.2.2.2.2.2
theorem cf41_30 : zf 41 30 = some (.putfield 23) ∧ zf 41 33 = some (.return_) := by decide +kernel
theorem f41_30 : zf 41 30 = some (.putfield 23) := cf41_30.1
theorem f41_33 : zf 41 33 = some (.return_) := cf41_30.2
theorem cf42_0 : zf 42 0 = some (.aload_n 0) ∧ zf 42 1 = some (.aload_n 1) ∧ zf 42 2 = some (.getfield 9) ∧ zf 42 5 = some (.putfield 9) ∧ zf 42 8 = some (.aload_n 0) ∧ zf 42 9 = some (.aload_n 1) ∧ zf 42 10 = some (.getfield 26) ∧ zf 42 13 = some (.putfield 26) ∧ zf 42 16 = some (.aload_n 0) ∧ zf 42 17 = some (.aload_n 1) ∧ zf 42 18 = some (.getfield 29) ∧ zf 42 21 = some (.putfield 29) ∧ zf 42 24 = some (.aload_n 0) ∧ zf 42 25 = some (.aload_n 1) ∧ zf 42 26 = some (.getfield 32) ∧ zf 42 29 = some (.putfield 32) := by decide +kernel
theorem f42_0 : zf 42 0 = some (.aload_n 0) := cf42_0.1
theorem f42_1 : zf 42 1 = some (.aload_n 1) := cf42_0.2.1
theorem f42_2 : zf 42 2 = some (.getfield 9) := cf42_0.2.2.1
theorem f42_5 : zf 42 5 = some (.putfield 9) := cf42_0.2.2.2.1
theorem f42_8 : zf 42 8 = some (.aload_n 0) := cf42_0.2.2.2.2.1
theorem f42_9 : zf 42 9 = some (.aload_n 1) := cf42_0.2.2.2.2.2.1
theorem f42_10 : zf 42 10 = some (.getfield 26) := cf42_0.2.2.2.2.2.2.1
theorem f42_13 : zf 42 13 = some (.putfield 26) := cf42_0.2.2.2.2.2.2.2.1
theorem f42_16 : zf 42 16 = some (.aload_n 0) := cf42_0.2.2.2.2.2.2.2.2.1
theorem f42_17 : zf 42 17 = some (.aload_n 1) := cf42_0.2.2.2.2.2.2.2.2.2.1
theorem f42_18 : zf 42 18 = some (.getfield 29) := cf42_0.2.2.2.2.2.2.2.2.2.2.1
theorem f42_21 : zf 42 21 = some (.putfield 29) := cf42_0.2.2.2.2.2.2.2.2.2.2.2.1
theorem f42_24 : zf 42 24 = some (.aload_n 0) := cf42_0.2.2.2.2.2.2.2.2.2.2.2.2.1
theorem f42_25 : zf 42 25 = some (.aload_n 1) := cf42_0.2.2.2.2.2.2.2.2.2.2.2.2.2.1
theorem f42_26 : zf 42 26 = some (.getfield 32) := cf42_0.2.2.2.2.2.2.2.2.2.2.2.2.2.2.1
theorem f42_29 : zf 42 29 = some (.putfield 32) := cf42_0.2.2.2.2.2.2.2.2.2.2.2.2.2.2.2
theorem cf42_32 : zf 42 32 = some (.aload_n 0) ∧ zf 42 33 = some (.aload_n 1) ∧ zf 42 34 = some (.getfield 35) ∧ zf 42 37 = some (.putfield 35) ∧ zf 42 40 = some (.aload_n 0) ∧ zf 42 41 = some (.aload_n 1) ∧ zf 42 42 = some (.getfield 38) ∧ zf 42 45 = some (.putfield 38) ∧ zf 42 48 = some (.aload_n 0) ∧ zf 42 49 = some (.aload_n 1) ∧ zf 42 50 = some (.getfield 42) ∧ zf 42 53 = some (.putfield 42) ∧ zf 42 56 = some (.aload_n 1) ∧ zf 42 57 = some (.getfield 15) ∧ zf 42 60 = some (.iconst 0) ∧ zf 42 61 = some (.aload_n 0) := by decide +kernel
theorem f42_32 : zf 42 32 = some (.aload_n 0) := cf42_32.1
theorem f42_33 : zf 42 33 = some (.aload_n 1) := cf42_32.2.1
theorem f42_34 : zf 42 34 = some (.getfield 35) := cf42_32.2.2.1
theorem f42_37 : zf 42 37 = some (.putfield 35) := cf42_32.2.2.2.1
theorem f42_40 : zf 42 40 = some (.aload_n 0) := cf42_32.2.2.2.2.1
theorem f42_41 : zf 42 41 = some (.aload_n 1) := cf42_32.2.2.2.2.2.1
theorem f42_42 : zf 42 42 = some (.getfield 38) := cf42_32.2.2.2.2.2.2.1
theorem f42_45 : zf 42 45 = some (.putfield 38) := cf42_32.2.2.2.2.2.2.2.1
theorem f42_48 : zf 42 48 = some (.aload_n 0) := cf42_32.2.2.2.2.2.2.2.2.1
theorem f42_49 : zf 42 49 = some (.aload_n 1) := cf42_32.2.2.2.2.2.2.2.2.2.1
theorem f42_50 : zf 42 50 = some (.getfield 42) := cf42_32.2.2.2.2.2.2.2.2.2.2.1
theorem f42_53 : zf 42 53 = some (.putfield 42) := cf42_32.2.2.2.2.2.2.2.2.2.2.2.1
theorem f42_56 : zf 42 56 = some (.aload_n 1) := cf42_32.2.2.2.2.2.2.2.2.2.2.2.2.1
theorem f42_57 : zf 42 57 = some (.getfield 15) := cf42_32.2.2.2.2.2.2.2.2.2.2.2.2.2.1
theorem f42_60 : zf 42 60 = some (.iconst 0) := cf42_32.2.2.2.2.2.2.2.2.2.2.2.2.2.2.1
theorem f42_61 : zf 42 61 = some (.aload_n 0) := cf42_32.2.2.2.2.2.2.2.2.2.2.2.2.2.2.2
theorem cf42_62 : zf 42 62 = some (.getfield 15) ∧ zf 42 65 = some (.iconst 0) ∧ zf 42 66 = some (.bipush 8) ∧ zf 42 68 = some (.invokestatic 45) ∧ zf 42 71 = some (.aload_n 1) ∧ zf 42 72 = some (.getfield 19) ∧ zf 42 75 = some (.iconst 0) ∧ zf 42 76 = some (.aload_n 0) ∧ zf 42 77 = some (.getfield 19) ∧ zf 42 80 = some (.iconst 0) ∧ zf 42 81 = some (.bipush 8) ∧ zf 42 83 = some (.invokestatic 45) ∧ zf 42 86 = some (.aload_n 1) ∧ zf 42 87 = some (.getfield 23) ∧ zf 42 90 = some (.iconst 0) ∧ zf 42 91 = some (.aload_n 0) := by decide +kernel
theorem f42_62 : zf 42 62 = some (.getfield 15) := cf42_62.1
theorem f42_65 : zf 42 65 = some (.iconst 0) := cf42_62.2.1
theorem f42_66 : zf 42 66 = some (.bipush 8) := cf42_62.2.2.1
theorem f42_68 : zf 42 68 = some (.invokestatic 45) := cf42_62.2.2.2.1
theorem f42_71 : zf 42 71 = some (.aload_n 1) := cf42_62.2.2.2.2.1
theorem f42_72 : zf 42 72 = some (.getfield 19) := cf42_62.2.2.2.2.2.1
theorem f42_75 : zf 42 75 = some (.iconst 0) := cf42_62.2.2.2.2.2.2.1
theorem f42_76 : zf 42 76 = some (.aload_n 0) := cf42_62.2.2.2.2.2.2.2.1
theorem f42_77 : zf 42 77 = some (.getfield 19) := cf42_62.2.2.2.2.2.2.2.2.1
theorem f42_80 : zf 42 80 = some (.iconst 0) := cf42_62.2.2.2.2.2.2.2.2.2.1
theorem f42_81 : zf 42 81 = some (.bipush 8) := cf42_62.2.2.2.2.2.2.2.2.2.2.1
theorem f42_83 : zf 42 83 = some (.invokestatic 45) := cf42_62.2.2.2.2.2.2.2.2.2.2.2.1
theorem f42_86 : zf 42 86 = some (.aload_n 1) := cf42_62.2.2.2.2.2.2.2.2.2.2.2.2.1
theorem f42_87 : zf 42 87 = some (.getfield 23) := cf42_62.2.2.2.2.2.2.2.2.2.2.2.2.2.1
theorem f42_90 : zf 42 90 = some (.iconst 0) := cf42_62.2.2.2.2.2.2.2.2.2.2.2.2.2.2.1
theorem f42_91 : zf 42 91 = some (.aload_n 0) := cf42_62.2.2.2.2.2.2.2.2.2.2.2.2.2.2.2
theorem cf42_92 : zf 42 92 = some (.getfield 23) ∧ zf 42 95 = some (.iconst 0) ∧ zf 42 96 = some (.bipush 14) ∧ zf 42 98 = some (.invokestatic 45) ∧ zf 42 101 = some (.return_) := by decide +kernel
theorem f42_92 : zf 42 92 = some (.getfield 23) := cf42_92.1
theorem f42_95 : zf 42 95 = some (.iconst 0) := cf42_92.2.1
theorem f42_96 : zf 42 96 = some (.bipush 14) := cf42_92.2.2.1
theorem f42_98 : zf 42 98 = some (.invokestatic 45) := cf42_92.2.2.2.1
theorem f42_101 : zf 42 101 = some (.return_) := cf42_92.2.2.2.2
theorem cf43_0 : zf 43 0 = some (.aload_n 0) ∧ zf 43 1 = some (.getfield 38) ∧ zf 43 4 = some (.iload_n 1) ∧ zf 43 5 = some (.ishr) ∧ zf 43 6 = some (.iconst 1) ∧ zf 43 7 = some (.iand) ∧ zf 43 8 = some (.ifCond .eq 7) ∧ zf 43 11 = some (.iconst 1) ∧ zf 43 12 = some (.goto 4) ∧ zf 43 15 = some (.iconst 0) ∧ zf 43 16 = some (.ireturn) := by decide +kernel
theorem f43_0 : zf 43 0 = some (.aload_n 0) := cf43_0.1
theorem f43_1 : zf 43 1 = some (.getfield 38) := cf43_0.2.1
theorem f43_4 : zf 43 4 = some (.iload_n 1) := cf43_0.2.2.1
theorem f43_5 : zf 43 5 = some (.ishr) := cf43_0.2.2.2.1
theorem f43_6 : zf 43 6 = some (.iconst 1) := cf43_0.2.2.2.2.1
theorem f43_7 : zf 43 7 = some (.iand) := cf43_0.2.2.2.2.2.1
theorem f43_8 : zf 43 8 = some (.ifCond .eq 7) := cf43_0.2.2.2.2.2.2.1
theorem f43_11 : zf 43 11 = some (.iconst 1) := cf43_0.2.2.2.2.2.2.2.1
theorem f43_12 : zf 43 12 = some (.goto 4) := cf43_0.2.2.2.2.2.2.2.2.1
theorem f43_15 : zf 43 15 = some (.iconst 0) := cf43_0.2.2.2.2.2.2.2.2.2.1
theorem f43_16 : zf 43 16 = some (.ireturn) := cf43_0.2.2.2.2.2.2.2.2.2.2
theorem cf44_0 : zf 44 0 = some (.aload_n 0) ∧ zf 44 1 = some (.iload_n 2) ∧ zf 44 2 = some (.ifCond .eq 14) ∧ zf 44 5 = some (.aload_n 0) ∧ zf 44 6 = some (.getfield 38) ∧ zf 44 9 = some (.iconst 1) ∧ zf 44 10 = some (.iload_n 1) ∧ zf 44 11 = some (.ishl) ∧ zf 44 12 = some (.ior) ∧ zf 44 13 = some (.goto 13) ∧ zf 44 16 = some (.aload_n 0) ∧ zf 44 17 = some (.getfield 38) ∧ zf 44 20 = some (.iconst 1) ∧ zf 44 21 = some (.iload_n 1) ∧ zf 44 22 = some (.ishl) ∧ zf 44 23 = some (.iconst (-1)) := by decide +kernel
theorem f44_0 : zf 44 0 = some (.aload_n 0) := cf44_0.1
theorem f44_1 : zf 44 1 = some (.iload_n 2) := cf44_0.2.1
theorem f44_2 : zf 44 2 = some (.ifCond .eq 14) := cf44_0.2.2.1
theorem f44_5 : zf 44 5 = some (.aload_n 0) := cf44_0.2.2.2.1
theorem f44_6 : zf 44 6 = some (.getfield 38) := cf44_0.2.2.2.2.1
theorem f44_9 : zf 44 9 = some (.iconst 1) := cf44_0.2.2.2.2.2.1
theorem f44_10 : zf 44 10 = some (.iload_n 1) := cf44_0.2.2.2.2.2.2.1
theorem f44_11 : zf 44 11 = some (.ishl) := cf44_0.2.2.2.2.2.2.2.1
theorem f44_12 : zf 44 12 = some (.ior) := cf44_0.2.2.2.2.2.2.2.2.1
theorem f44_13 : zf 44 13 = some (.goto 13) := cf44_0.2.2.2.2.2.2.2.2.2.1
theorem f44_16 : zf 44 16 = some (.aload_n 0) := cf44_0.2.2.2.2.2.2.2.2.2.2.1
theorem f44_17 : zf 44 17 = some (.getfield 38) := cf44_0.2.2.2.2.2.2.2.2.2.2.2.1
theorem f44_20 : zf 44 20 = some (.iconst 1) := cf44_0.2.2.2.2.2.2.2.2.2.2.2.2.1
theorem f44_21 : zf 44 21 = some (.iload_n 1) := cf44_0.2.2.2.2.2.2.2.2.2.2.2.2.2.1
theorem f44_22 : zf 44 22 = some (.ishl) := cf44_0.2.2.2.2.2.2.2.2.2.2.2.2.2.2.1
theorem f44_23 : zf 44 23 = some (.iconst (-1)) := cf44_0.2.2.2.2.2.2.2.2.2.2.2.2.2.2.2
theorem cf44_24 : zf 44 24 = some (.ixor) ∧ zf 44 25 = some (.iand) ∧ zf 44 26 = some (.putfield 38) ∧ zf 44 29 = some (.return_) := by decide +kernel
theorem f44_24 : zf 44 24 = some (.ixor) := cf44_24.1
theorem f44_25 : zf 44 25 = some (.iand) := cf44_24.2.1
theorem f44_26 : zf 44 26 = some (.putfield 38) := cf44_24.2.2.1
theorem f44_29 : zf 44 29 = some (.return_) := cf44_24.2.2.2
theorem cf45_0 : zf 45 0 = some (.aload_n 0) ∧ zf 45 1 = some (.getfield 42) ∧ zf 45 4 = some (.iload_n 1) ∧ zf 45 5 = some (.ishr) ∧ zf 45 6 = some (.iconst 1) ∧ zf 45 7 = some (.iand) ∧ zf 45 8 = some (.ifCond .eq 7) ∧ zf 45 11 = some (.iconst 1) ∧ zf 45 12 = some (.goto 4) ∧ zf 45 15 = some (.iconst 0) ∧ zf 45 16 = some (.ireturn) := by decide +kernel
theorem f45_0 : zf 45 0 = some (.aload_n 0) := cf45_0.1
theorem f45_1 : zf 45 1 = some (.getfield 42) := cf45_0.2.1
theorem f45_4 : zf 45 4 = some (.iload_n 1) := cf45_0.2.2.1
theorem f45_5 : zf 45 5 = some (.ishr) := cf45_0.2.2.2.1
theorem f45_6 : zf 45 6 = some (.iconst 1) := cf45_0.2.2.2.2.1
theorem f45_7 : zf 45 7 = some (.iand) := cf45_0.2.2.2.2.2.1
theorem f45_8 : zf 45 8 = some (.ifCond .eq 7) := cf45_0.2.2.2.2.2.2.1
theorem f45_11 : zf 45 11 = some (.iconst 1) := cf45_0.2.2.2.2.2.2.2.1
theorem f45_12 : zf 45 12 = some (.goto 4) := cf45_0.2.2.2.2.2.2.2.2.1
theorem f45_15 : zf 45 15 = some (.iconst 0) := cf45_0.2.2.2.2.2.2.2.2.2.1
theorem f45_16 : zf 45 16 = some (.ireturn) := cf45_0.2.2.2.2.2.2.2.2.2.2
theorem cf46_0 : zf 46 0 = some (.aload_n 0) ∧ zf 46 1 = some (.iload_n 2) ∧ zf 46 2 = some (.ifCond .eq 14) ∧ zf 46 5 = some (.aload_n 0) ∧ zf 46 6 = some (.getfield 42) ∧ zf 46 9 = some (.iconst 1) ∧ zf 46 10 = some (.iload_n 1) ∧ zf 46 11 = some (.ishl) ∧ zf 46 12 = some (.ior) ∧ zf 46 13 = some (.goto 13) ∧ zf 46 16 = some (.aload_n 0) ∧ zf 46 17 = some (.getfield 42) ∧ zf 46 20 = some (.iconst 1) ∧ zf 46 21 = some (.iload_n 1) ∧ zf 46 22 = some (.ishl) ∧ zf 46 23 = some (.iconst (-1)) := by decide +kernel
theorem f46_0 : zf 46 0 = some (.aload_n 0) := cf46_0.1
theorem f46_1 : zf 46 1 = some (.iload_n 2) := cf46_0.2.1
theorem f46_2 : zf 46 2 = some (.ifCond .eq 14) := cf46_0.2.2.1
theorem f46_5 : zf 46 5 = some (.aload_n 0) := cf46_0.2.2.2.1
theorem f46_6 : zf 46 6 = some (.getfield 42) := cf46_0.2.2.2.2.1
theorem f46_9 : zf 46 9 = some (.iconst 1) := cf46_0.2.2.2.2.2.1
theorem f46_10 : zf 46 10 = some (.iload_n 1) := cf46_0.2.2.2.2.2.2.1
theorem f46_11 : zf 46 11 = some (.ishl) := cf46_0.2.2.2.2.2.2.2.1
theorem f46_12 : zf 46 12 = some (.ior) := cf46_0.2.2.2.2.2.2.2.2.1
theorem f46_13 : zf 46 13 = some (.goto 13) := cf46_0.2.2.2.2.2.2.2.2.2.1
theorem f46_16 : zf 46 16 = some (.aload_n 0) := cf46_0.2.2.2.2.2.2.2.2.2.2.1
theorem f46_17 : zf 46 17 = some (.getfield 42) := cf46_0.2.2.2.2.2.2.2.2.2.2.2.1
theorem f46_20 : zf 46 20 = some (.iconst 1) := cf46_0.2.2.2.2.2.2.2.2.2.2.2.2.1
theorem f46_21 : zf 46 21 = some (.iload_n 1) := cf46_0.2.2.2.2.2.2.2.2.2.2.2.2.2.1
theorem f46_22 : zf 46 22 = some (.ishl) := cf46_0.2.2.2.2.2.2.2.2.2.2.2.2.2.2.1
theorem f46_23 : zf 46 23 = some (.iconst (-1)) := cf46_0.2.2.2.2.2.2.2.2.2.2.2.2.2.2.2
theorem cf46_24 : zf 46 24 = some (.ixor) ∧ zf 46 25 = some (.iand) ∧ zf 46 26 = some (.putfield 42) ∧ zf 46 29 = some (.return_) := by decide +kernel
theorem f46_24 : zf 46 24 = some (.ixor) := cf46_24.1
theorem f46_25 : zf 46 25 = some (.iand) := cf46_24.2.1
theorem f46_26 : zf 46 26 = some (.putfield 42) := cf46_24.2.2.1
theorem f46_29 : zf 46 29 = some (.return_) := cf46_24.2.2.2
