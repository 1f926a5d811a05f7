set_option maxRecDepth 100000 in
set_option maxHeartbeats 0 in
theorem x_now_k1 (ro : UInt32 → Nat × (Nat → Int32)) : zWp ro 88 0 [(0, .ref 0), (1, .int 1)] [] hF 0 0 (fun r h1 => r = some (.int 1) ∧ zMF h1) := by
  refine zw_iload_n 1 f88_0 rfl rfl ?_
  refine zw_table_i (off := 52) 53 f88_1 (by decide +kernel) (by decide +kernel) (by decide +kernel) ?_
  refine zw_aload_n 54 f88_53 rfl rfl ?_
  refine zw_getfield 57 f88_54 rfl g88_21_11 rfl rfl ?_
  refine zw_getfield 60 f88_57 rfl g88_134_10 rfl rfl ?_
  refine zw_getfield 63 f88_60 rfl g88_191_9 rfl rfl ?_
  refine zw_aload_n 64 f88_63 rfl rfl ?_
  refine zw_getfield 67 f88_64 rfl g88_21_11 rfl rfl ?_
  refine zw_getfield 70 f88_67 rfl g88_134_10 rfl rfl ?_
  refine zw_getfield 73 f88_70 rfl g88_151_9 rfl rfl ?_
  refine zw_static_l 76 0 0 [.long 0, .long 1] [] [(0, .long 0), (2, .long 1)] f88_73 rfl k88_198_99 rfl (by decide +kernel) (Nat.le_of_ble_eq_true rfl) (Nat.le_of_ble_eq_true rfl) rfl rfl (by decide +kernel) (by decide +kernel) rfl (Nat.le_of_ble_eq_true rfl) rfl ?_
  refine zw_lload_n 1 f117_0 rfl rfl ?_
  refine zw_lload_n 2 f117_1 rfl rfl ?_
  refine zw_static_l 5 0 0 [.long 0, .long 1] [] [(0, .long 0), (2, .long 1)] f117_2 rfl k117_336_99 rfl (by decide +kernel) (Nat.le_of_ble_eq_true rfl) (Nat.le_of_ble_eq_true rfl) rfl rfl (by decide +kernel) (by decide +kernel) rfl (Nat.le_of_ble_eq_true rfl) rfl ?_
  refine zw_lload_n 1 f115_0 rfl rfl ?_
  refine zw_lstore [(4, .long 0), (0, .long 0), (2, .long 1)] 3 f115_1 rfl (by decide +kernel) rfl ?_
  refine zw_lload_n 4 f115_3 rfl rfl ?_
  refine zw_lstore [(6, .long 1), (4, .long 0), (0, .long 0), (2, .long 1)] 6 f115_4 rfl (by decide +kernel) rfl ?_
  refine zw_iconst 0 7 f115_6 rfl (by decide +kernel) ?_
  refine zw_istore [(8, .int 0), (6, .long 1), (4, .long 0), (0, .long 0), (2, .long 1)] 9 f115_7 rfl (by decide +kernel) rfl ?_
  refine zw_iload 11 f115_9 rfl rfl ?_
  refine zw_sipush 200 14 f115_11 rfl (by decide +kernel) ?_
  refine zw_ic_ge_f 17 45 f115_14 (by decide +kernel) rfl (by decide +kernel) ?_
  refine zw_lload 19 f115_17 rfl rfl ?_
  refine zw_lconst 0 20 f115_19 rfl (by decide +kernel) ?_
  refine zw_lcmp 1 21 f115_20 rfl (by decide +kernel) ?_
  refine zw_if_eq_f 24 45 f115_21 (by decide +kernel) rfl (by decide +kernel) ?_
  refine zw_lload 26 f115_24 rfl rfl ?_
  refine zw_lload 28 f115_26 rfl rfl ?_
  refine zw_lrem 0 29 f115_28 rfl (by decide +kernel) (by decide +kernel) ?_
  refine zw_lstore [(9, .long 0), (8, .int 0), (6, .long 1), (4, .long 0), (0, .long 0), (2, .long 1)] 31 f115_29 rfl (by decide +kernel) rfl ?_
  refine zw_lload 33 f115_31 rfl rfl ?_
  refine zw_lstore [(4, .long 1), (9, .long 0), (8, .int 0), (6, .long 1), (0, .long 0), (2, .long 1)] 35 f115_33 rfl (by decide +kernel) rfl ?_
  refine zw_lload 37 f115_35 rfl rfl ?_
  refine zw_lstore [(6, .long 0), (4, .long 1), (9, .long 0), (8, .int 0), (0, .long 0), (2, .long 1)] 39 f115_37 rfl (by decide +kernel) rfl ?_
  refine zw_iinc 1 [(8, .int 1), (6, .long 0), (4, .long 1), (9, .long 0), (0, .long 0), (2, .long 1)] 42 f115_39 rfl rfl (by decide +kernel) (by decide +kernel) rfl ?_
  refine zw_goto 9 f115_42 (by decide +kernel) ?_
  refine zw_iload 11 f115_9 rfl rfl ?_
  refine zw_sipush 200 14 f115_11 rfl (by decide +kernel) ?_
  refine zw_ic_ge_f 17 45 f115_14 (by decide +kernel) rfl (by decide +kernel) ?_
  refine zw_lload 19 f115_17 rfl rfl ?_
  refine zw_lconst 0 20 f115_19 rfl (by decide +kernel) ?_
  refine zw_lcmp 0 21 f115_20 rfl (by decide +kernel) ?_
  refine zw_if_eq_t 45 f115_21 (by decide +kernel) (by decide +kernel) ?_
  refine zw_lload 47 f115_45 rfl rfl ?_
  refine zw_lconst 0 48 f115_47 rfl (by decide +kernel) ?_
  refine zw_lcmp 1 49 f115_48 rfl (by decide +kernel) ?_
  refine zw_if_ne_t 56 f115_49 (by decide +kernel) (by decide +kernel) ?_
  refine zw_lload 58 f115_56 rfl rfl ?_
  refine zw_lreturn f115_58 r115 u115 ⟨_, rfl, ?_⟩
  refine zw_lstore [(4, .long 1), (0, .long 0), (2, .long 1)] 7 f117_5 rfl (by decide +kernel) rfl ?_
  refine zw_lload 9 f117_7 rfl rfl ?_
  refine zw_lconst 0 10 f117_9 rfl (by decide +kernel) ?_
  refine zw_lcmp 1 11 f117_10 rfl (by decide +kernel) ?_
  refine zw_if_ne_t 18 f117_11 (by decide +kernel) (by decide +kernel) ?_
  refine zw_lload_n 19 f117_18 rfl rfl ?_
  refine zw_lload 21 f117_19 rfl rfl ?_
  refine zw_ldiv 1 22 f117_21 rfl (by decide +kernel) (by decide +kernel) ?_
  refine zw_lreturn f117_22 r117 u117 ⟨_, rfl, ?_⟩
  refine zw_l2i 1 77 f88_76 rfl (by decide +kernel) ?_
  refine zw_ireturn f88_77 r88 u88 ?_
  exact ⟨rfl, by repeat (first | exact zMF_0 | refine zMF_set (by decide) ?_)⟩
set_option maxRecDepth 100000 in
set_option maxHeartbeats 0 in
theorem x_now_k2 (ro : UInt32 → Nat × (Nat → Int32)) : zWp ro 88 0 [(0, .ref 0), (1, .int 2)] [] hF 0 0 (fun r h1 => r = some (.int 1) ∧ zMF h1) := by
  refine zw_iload_n 1 f88_0 rfl rfl ?_
  refine zw_table_i (off := 77) 78 f88_1 (by decide +kernel) (by decide +kernel) (by decide +kernel) ?_
  refine zw_aload_n 79 f88_78 rfl rfl ?_
  refine zw_getfield 82 f88_79 rfl g88_21_11 rfl rfl ?_
  refine zw_getfield 85 f88_82 rfl g88_134_10 rfl rfl ?_
  refine zw_getfield 88 f88_85 rfl g88_151_9 rfl rfl ?_
  refine zw_l2i 1 89 f88_88 rfl (by decide +kernel) ?_
  refine zw_ireturn f88_89 r88 u88 ?_
  exact ⟨rfl, by repeat (first | exact zMF_0 | refine zMF_set (by decide) ?_)⟩
set_option maxRecDepth 100000 in
set_option maxHeartbeats 0 in
theorem x_now_o (ro : UInt32 → Nat × (Nat → Int32)) (a : Int32) (h1 : a.toInt < 0 ∨ (2 : Int) < a.toInt) : zWp ro 88 0 [(0, .ref 0), (1, .int a)] [] hF 0 0 (fun r h1 => r = some (.int (-1)) ∧ zMF h1) := by
  refine zw_iload_n 1 f88_0 rfl rfl ?_
  refine zw_table_o 90 f88_1 h1 (by decide +kernel) ?_
  refine zw_iconst (-1) 91 f88_90 rfl (by decide +kernel) ?_
  refine zw_ireturn f88_91 r88 u88 ?_
  exact ⟨rfl, by repeat (first | exact zMF_0 | refine zMF_set (by decide) ?_)⟩
set_option maxRecDepth 100000 in
set_option maxHeartbeats 0 in
theorem x_next_r (ro : UInt32 → Nat × (Nat → Int32)) (a : Int32) : zWp ro 89 0 [(0, .ref 0), (1, .int a)] [] hF 0 0 (fun r h1 => r = some (.long (-1)) ∧ zMF h1) := by
  refine zw_iload_n 1 f89_0 rfl rfl ?_
  refine zw_iconst 0 2 f89_1 rfl (by decide +kernel) ?_
  refine zw_iconst 1 3 f89_2 rfl (by decide +kernel) ?_
  refine zw_static_i 6 0 0 [.int a, .int 0, .int 1] [] [(0, .int a), (1, .int 0), (2, .int 1)] f89_3 rfl k89_74_99 rfl (by decide +kernel) (Nat.le_of_ble_eq_true rfl) (Nat.le_of_ble_eq_true rfl) rfl rfl (by decide +kernel) (by decide +kernel) rfl (Nat.le_of_ble_eq_true rfl) rfl ?_
  refine zw_iload_n 1 f112_0 rfl rfl ?_
  refine zw_iload_n 2 f112_1 rfl rfl ?_
  refine zw_ic_lt 5 14 f112_2 (by decide +kernel) rfl (fun hc1 => ?_) (fun hc1 => ?_)
  · refine zw_iconst 0 15 f112_14 rfl (by decide +kernel) ?_
    refine zw_zreturn f112_15 r112 u112 (by decide +kernel) ⟨_, rfl, ?_⟩
    refine zw_if_ne_f 9 13 f89_6 (by decide +kernel) rfl (by decide +kernel) ?_
    refine zw_ldc2_w (-1) 12 f89_9 rfl (by decide +kernel) ?_
    refine zw_lreturn f89_12 r89 u89 ?_
    exact ⟨rfl, by repeat (first | exact zMF_0 | refine zMF_set (by decide) ?_)⟩
  · refine zw_iload_n 6 f112_5 rfl rfl ?_
    refine zw_iload_n 7 f112_6 rfl rfl ?_
    refine zw_ic_gt 10 14 f112_7 (by decide +kernel) rfl (fun hc2 => ?_) (fun hc2 => ?_)
    · refine zw_iconst 0 15 f112_14 rfl (by decide +kernel) ?_
      refine zw_zreturn f112_15 r112 u112 (by decide +kernel) ⟨_, rfl, ?_⟩
      refine zw_if_ne_f 9 13 f89_6 (by decide +kernel) rfl (by decide +kernel) ?_
      refine zw_ldc2_w (-1) 12 f89_9 rfl (by decide +kernel) ?_
      refine zw_lreturn f89_12 r89 u89 ?_
      exact ⟨rfl, by repeat (first | exact zMF_0 | refine zMF_set (by decide) ?_)⟩
    · refine zw_iconst 1 11 f112_10 rfl (by decide +kernel) ?_
      refine zw_goto 15 f112_11 (by decide +kernel) ?_
      refine zw_zreturn f112_15 r112 u112 (by decide +kernel) ⟨_, rfl, ?_⟩
      refine zw_if_ne_t 13 f89_6 (by decide +kernel) (by decide +kernel) ?_
      refine zw_aload_n 14 f89_13 rfl rfl ?_
      refine zw_getfield 17 f89_14 rfl g89_21_11 rfl rfl ?_
      refine zw_virtual_v 20 0 0 [.ref 11] [(0, .ref 11)] f89_17 rfl n89_167 k89_167_10 rfl rfl (by decide +kernel) (Nat.le_of_ble_eq_true rfl) rfl rfl (by decide +kernel) (by decide +kernel) rfl (Nat.le_of_ble_eq_true rfl) rfl ?_
      refine zw_aload_n 1 f53_0 rfl rfl ?_
      refine zw_virtual_v 4 0 0 [.ref 11] [(0, .ref 11)] f53_1 rfl n53_113 k53_113_10 rfl rfl (by decide +kernel) (Nat.le_of_ble_eq_true rfl) rfl rfl (by decide +kernel) (by decide +kernel) rfl (Nat.le_of_ble_eq_true rfl) rfl ?_
      refine zw_aload_n 1 f49_0 rfl rfl ?_
      refine zw_iconst 0 2 f49_1 rfl (by decide +kernel) ?_
      refine zw_putfieldS 5 f49_2 rfl g49_54_10 rfl rfl rfl (by decide +kernel) ?_
      refine zw_aload_n 6 f49_5 rfl rfl ?_
      refine zw_iconst 0 7 f49_6 rfl (by decide +kernel) ?_
      refine zw_putfieldS 10 f49_7 rfl g49_58_10 rfl rfl rfl (by decide +kernel) ?_
      refine zw_iconst 0 11 f49_10 rfl (by decide +kernel) ?_
      refine zw_istore_n [(1, .int 0), (0, .ref 11)] 12 f49_11 rfl (by decide +kernel) rfl ?_
      refine zw_iload_n 13 f49_12 rfl rfl ?_
      refine zw_bipush 8 15 f49_13 rfl (by decide +kernel) ?_
      refine zw_ic_ge_f 18 31 f49_15 (by decide +kernel) rfl (by decide +kernel) ?_
      refine zw_aload_n 19 f49_18 rfl rfl ?_
      refine zw_getfield 22 f49_19 rfl g49_18_10 rfl rfl ?_
      refine zw_iload_n 23 f49_22 rfl rfl ?_
      refine zw_iconst 0 24 f49_23 rfl (by decide +kernel) ?_
      refine zw_iastoreS 0 25 f49_24 rfl rfl (by decide +kernel) (by decide +kernel) (by decide +kernel) rfl ?_
      refine zw_iinc 1 [(1, .int 1), (0, .ref 11)] 28 f49_25 rfl rfl (by decide +kernel) (by decide +kernel) rfl ?_
      refine zw_goto 12 f49_28 (by decide +kernel) ?_
      refine zw_iload_n 13 f49_12 rfl rfl ?_
      refine zw_bipush 8 15 f49_13 rfl (by decide +kernel) ?_
      refine zw_ic_ge_f 18 31 f49_15 (by decide +kernel) rfl (by decide +kernel) ?_
      refine zw_aload_n 19 f49_18 rfl rfl ?_
      refine zw_getfield 22 f49_19 rfl g49_18_10 rfl rfl ?_
      refine zw_iload_n 23 f49_22 rfl rfl ?_
      refine zw_iconst 0 24 f49_23 rfl (by decide +kernel) ?_
      refine zw_iastoreS 1 25 f49_24 rfl rfl (by decide +kernel) (by decide +kernel) (by decide +kernel) rfl ?_
      refine zw_iinc 2 [(1, .int 2), (0, .ref 11)] 28 f49_25 rfl rfl (by decide +kernel) (by decide +kernel) rfl ?_
      refine zw_goto 12 f49_28 (by decide +kernel) ?_
      refine zw_iload_n 13 f49_12 rfl rfl ?_
      refine zw_bipush 8 15 f49_13 rfl (by decide +kernel) ?_
      refine zw_ic_ge_f 18 31 f49_15 (by decide +kernel) rfl (by decide +kernel) ?_
      refine zw_aload_n 19 f49_18 rfl rfl ?_
      refine zw_getfield 22 f49_19 rfl g49_18_10 rfl rfl ?_
      refine zw_iload_n 23 f49_22 rfl rfl ?_
      refine zw_iconst 0 24 f49_23 rfl (by decide +kernel) ?_
      refine zw_iastoreS 2 25 f49_24 rfl rfl (by decide +kernel) (by decide +kernel) (by decide +kernel) rfl ?_
      refine zw_iinc 3 [(1, .int 3), (0, .ref 11)] 28 f49_25 rfl rfl (by decide +kernel) (by decide +kernel) rfl ?_
      refine zw_goto 12 f49_28 (by decide +kernel) ?_
      refine zw_iload_n 13 f49_12 rfl rfl ?_
      refine zw_bipush 8 15 f49_13 rfl (by decide +kernel) ?_
      refine zw_ic_ge_f 18 31 f49_15 (by decide +kernel) rfl (by decide +kernel) ?_
      refine zw_aload_n 19 f49_18 rfl rfl ?_
      refine zw_getfield 22 f49_19 rfl g49_18_10 rfl rfl ?_
      refine zw_iload_n 23 f49_22 rfl rfl ?_
      refine zw_iconst 0 24 f49_23 rfl (by decide +kernel) ?_
      refine zw_iastoreS 3 25 f49_24 rfl rfl (by decide +kernel) (by decide +kernel) (by decide +kernel) rfl ?_
      refine zw_iinc 4 [(1, .int 4), (0, .ref 11)] 28 f49_25 rfl rfl (by decide +kernel) (by decide +kernel) rfl ?_
      refine zw_goto 12 f49_28 (by decide +kernel) ?_
      refine zw_iload_n 13 f49_12 rfl rfl ?_
      refine zw_bipush 8 15 f49_13 rfl (by decide +kernel) ?_
      refine zw_ic_ge_f 18 31 f49_15 (by decide +kernel) rfl (by decide +kernel) ?_
      refine zw_aload_n 19 f49_18 rfl rfl ?_
      refine zw_getfield 22 f49_19 rfl g49_18_10 rfl rfl ?_
      refine zw_iload_n 23 f49_22 rfl rfl ?_
      refine zw_iconst 0 24 f49_23 rfl (by decide +kernel) ?_
      refine zw_iastoreS 4 25 f49_24 rfl rfl (by decide +kernel) (by decide +kernel) (by decide +kernel) rfl ?_
      refine zw_iinc 5 [(1, .int 5), (0, .ref 11)] 28 f49_25 rfl rfl (by decide +kernel) (by decide +kernel) rfl ?_
      refine zw_goto 12 f49_28 (by decide +kernel) ?_
      refine zw_iload_n 13 f49_12 rfl rfl ?_
      refine zw_bipush 8 15 f49_13 rfl (by decide +kernel) ?_
      refine zw_ic_ge_f 18 31 f49_15 (by decide +kernel) rfl (by decide +kernel) ?_
      refine zw_aload_n 19 f49_18 rfl rfl ?_
      refine zw_getfield 22 f49_19 rfl g49_18_10 rfl rfl ?_
      refine zw_iload_n 23 f49_22 rfl rfl ?_
      refine zw_iconst 0 24 f49_23 rfl (by decide +kernel) ?_
      refine zw_iastoreS 5 25 f49_24 rfl rfl (by decide +kernel) (by decide +kernel) (by decide +kernel) rfl ?_
      refine zw_iinc 6 [(1, .int 6), (0, .ref 11)] 28 f49_25 rfl rfl (by decide +kernel) (by decide +kernel) rfl ?_
      refine zw_goto 12 f49_28 (by decide +kernel) ?_
      refine zw_iload_n 13 f49_12 rfl rfl ?_
      refine zw_bipush 8 15 f49_13 rfl (by decide +kernel) ?_
      refine zw_ic_ge_f 18 31 f49_15 (by decide +kernel) rfl (by decide +kernel) ?_
      refine zw_aload_n 19 f49_18 rfl rfl ?_
      refine zw_getfield 22 f49_19 rfl g49_18_10 rfl rfl ?_
      refine zw_iload_n 23 f49_22 rfl rfl ?_
      refine zw_iconst 0 24 f49_23 rfl (by decide +kernel) ?_
      refine zw_iastoreS 6 25 f49_24 rfl rfl (by decide +kernel) (by decide +kernel) (by decide +kernel) rfl ?_
      refine zw_iinc 7 [(1, .int 7), (0, .ref 11)] 28 f49_25 rfl rfl (by decide +kernel) (by decide +kernel) rfl ?_
      refine zw_goto 12 f49_28 (by decide +kernel) ?_
      refine zw_iload_n 13 f49_12 rfl rfl ?_
      refine zw_bipush 8 15 f49_13 rfl (by decide +kernel) ?_
      refine zw_ic_ge_f 18 31 f49_15 (by decide +kernel) rfl (by decide +kernel) ?_
      refine zw_aload_n 19 f49_18 rfl rfl ?_
      refine zw_getfield 22 f49_19 rfl g49_18_10 rfl rfl ?_
      refine zw_iload_n 23 f49_22 rfl rfl ?_
      refine zw_iconst 0 24 f49_23 rfl (by decide +kernel) ?_
      refine zw_iastoreS 7 25 f49_24 rfl rfl (by decide +kernel) (by decide +kernel) (by decide +kernel) rfl ?_
      refine zw_iinc 8 [(1, .int 8), (0, .ref 11)] 28 f49_25 rfl rfl (by decide +kernel) (by decide +kernel) rfl ?_
      refine zw_goto 12 f49_28 (by decide +kernel) ?_
      refine zw_iload_n 13 f49_12 rfl rfl ?_
      refine zw_bipush 8 15 f49_13 rfl (by decide +kernel) ?_
      refine zw_ic_ge_t 31 f49_15 (by decide +kernel) (by decide +kernel) ?_
      refine zw_iconst 0 32 f49_31 rfl (by decide +kernel) ?_
      refine zw_istore_n [(1, .int 0), (0, .ref 11)] 33 f49_32 rfl (by decide +kernel) rfl ?_
      refine zw_iload_n 34 f49_33 rfl rfl ?_
      refine zw_aload_n 35 f49_34 rfl rfl ?_
      refine zw_getfield 38 f49_35 rfl g49_37_10 rfl rfl ?_
      refine zw_getfield 41 f49_38 rfl g49_61_4 rfl rfl ?_
      refine zw_ic_ge_t 124 f49_41 (by decide +kernel) (by decide +kernel) ?_
      refine zw_iconst 0 125 f49_124 rfl (by decide +kernel) ?_
      refine zw_istore_n [(1, .int 0), (0, .ref 11)] 126 f49_125 rfl (by decide +kernel) rfl ?_
      refine zw_iload_n 127 f49_126 rfl rfl ?_
      refine zw_aload_n 128 f49_127 rfl rfl ?_
      refine zw_getfield 131 f49_128 rfl g49_37_10 rfl rfl ?_
      refine zw_getfield 134 f49_131 rfl g49_80_4 rfl rfl ?_
      refine zw_ic_ge_t 148 f49_134 (by decide +kernel) (by decide +kernel) ?_
      refine zw_vreturn f49_148 r49 u49 ⟨rfl, ?_⟩
      refine zw_aload_n 5 f53_4 rfl rfl ?_
      refine zw_lconst 0 6 f53_5 rfl (by decide +kernel) ?_
      refine zw_putfieldS 9 f53_6 rfl g53_116_10 rfl rfl rfl (by decide +kernel) ?_
      refine zw_aload_n 10 f53_9 rfl rfl ?_
      refine zw_lconst 0 11 f53_10 rfl (by decide +kernel) ?_
      refine zw_putfieldS 14 f53_11 rfl g53_119_10 rfl rfl rfl (by decide +kernel) ?_
      refine zw_iconst 0 15 f53_14 rfl (by decide +kernel) ?_
      refine zw_istore_n [(1, .int 0), (0, .ref 11)] 16 f53_15 rfl (by decide +kernel) rfl ?_
      refine zw_iload_n 17 f53_16 rfl rfl ?_
      refine zw_aload_n 18 f53_17 rfl rfl ?_
      refine zw_getfield 21 f53_18 rfl g53_37_10 rfl rfl ?_
      refine zw_getfield 24 f53_21 rfl g53_80_4 rfl rfl ?_
      refine zw_ic_ge_t 64 f53_24 (by decide +kernel) (by decide +kernel) ?_
      refine zw_vreturn f53_64 r53 u53 ⟨rfl, ?_⟩
      refine zw_aload_n 21 f89_20 rfl rfl ?_
      refine zw_getfield 24 f89_21 rfl g89_21_11 rfl rfl ?_
      refine zw_virtual_i 27 0 0 [.ref 11] [(0, .ref 11)] f89_24 rfl n89_170 k89_170_10 rfl rfl (by decide +kernel) (Nat.le_of_ble_eq_true rfl) rfl rfl (by decide +kernel) (by decide +kernel) rfl (Nat.le_of_ble_eq_true rfl) rfl ?_
      refine zw_aload_n 1 f58_0 rfl rfl ?_
      refine zw_getfield 4 f58_1 rfl g58_119_10 rfl rfl ?_
      refine zw_lconst 0 5 f58_4 rfl (by decide +kernel) ?_
      refine zw_lcmp 0 6 f58_5 rfl (by decide +kernel) ?_
      refine zw_if_ne_f 9 13 f58_6 (by decide +kernel) rfl (by decide +kernel) ?_
      refine zw_iconst 1 10 f58_9 rfl (by decide +kernel) ?_
      refine zw_goto 14 f58_10 (by decide +kernel) ?_
      refine zw_zreturn f58_14 r58 u58 (by decide +kernel) ⟨_, rfl, ?_⟩
      refine zw_if_eq_f 30 34 f89_27 (by decide +kernel) rfl (by decide +kernel) ?_
      refine zw_ldc2_w (-1) 33 f89_30 rfl (by decide +kernel) ?_
      refine zw_lreturn f89_33 r89 u89 ?_
      exact ⟨rfl, by repeat (first | exact zMF_0 | refine zMF_set (by decide) ?_)⟩
set_option maxRecDepth 100000 in
set_option maxHeartbeats 0 in
theorem x_level_r (ro : UInt32 → Nat × (Nat → Int32)) (a b : Int32) : zWp ro 90 0 [(0, .ref 0), (1, .int a), (2, .int b)] [] hF 0 0 (fun r h1 => r = some (.int (-1)) ∧ zMF h1) := by
  refine zw_aload_n 1 f90_0 rfl rfl ?_
  refine zw_getfield 4 f90_1 rfl g90_10_11 rfl rfl ?_
  refine zw_iload_n 5 f90_4 rfl rfl ?_
  refine zw_virtual_i 8 0 0 [.ref 1, .int a] [(0, .ref 1), (1, .int a)] f90_5 rfl n90_89 k90_89_4 rfl rfl (by decide +kernel) (Nat.le_of_ble_eq_true rfl) rfl rfl (by decide +kernel) (by decide +kernel) rfl (Nat.le_of_ble_eq_true rfl) rfl ?_
  refine zw_iload_n 1 f13_0 rfl rfl ?_
  refine zw_if_lt 4 22 f13_1 (by decide +kernel) rfl (fun hc1 => ?_) (fun hc1 => ?_)
  · refine zw_iconst 0 23 f13_22 rfl (by decide +kernel) ?_
    refine zw_zreturn f13_23 r13 u13 (by decide +kernel) ⟨_, rfl, ?_⟩
    refine zw_if_eq_t 20 f90_8 (by decide +kernel) (by decide +kernel) ?_
    refine zw_iconst (-1) 21 f90_20 rfl (by decide +kernel) ?_
    refine zw_ireturn f90_21 r90 u90 ?_
    exact ⟨rfl, by repeat (first | exact zMF_0 | refine zMF_set (by decide) ?_)⟩
  · refine zw_iload_n 5 f13_4 rfl rfl ?_
    refine zw_aload_n 6 f13_5 rfl rfl ?_
    refine zw_getfield 9 f13_6 rfl g13_39_4 rfl rfl ?_
    refine zw_ic_ge_t 22 f13_9 (by decide +kernel) (Int32.not_lt.mp hc1) ?_
    refine zw_iconst 0 23 f13_22 rfl (by decide +kernel) ?_
    refine zw_zreturn f13_23 r13 u13 (by decide +kernel) ⟨_, rfl, ?_⟩
    refine zw_if_eq_t 20 f90_8 (by decide +kernel) (by decide +kernel) ?_
    refine zw_iconst (-1) 21 f90_20 rfl (by decide +kernel) ?_
    refine zw_ireturn f90_21 r90 u90 ?_
    exact ⟨rfl, by repeat (first | exact zMF_0 | refine zMF_set (by decide) ?_)⟩
set_option maxRecDepth 100000 in
set_option maxHeartbeats 0 in
theorem x_rate_r (ro : UInt32 → Nat × (Nat → Int32)) (a : Int32) : zWp ro 91 0 [(0, .ref 0), (1, .int a)] [] hF 0 0 (fun r h1 => r = some (.int (-1000000)) ∧ zMF h1) := by
  refine zw_aload_n 1 f91_0 rfl rfl ?_
  refine zw_getfield 4 f91_1 rfl g91_10_11 rfl rfl ?_
  refine zw_iload_n 5 f91_4 rfl rfl ?_
  refine zw_virtual_i 8 0 0 [.ref 1, .int a] [(0, .ref 1), (1, .int a)] f91_5 rfl n91_89 k91_89_4 rfl rfl (by decide +kernel) (Nat.le_of_ble_eq_true rfl) rfl rfl (by decide +kernel) (by decide +kernel) rfl (Nat.le_of_ble_eq_true rfl) rfl ?_
  refine zw_iload_n 1 f13_0 rfl rfl ?_
  refine zw_if_lt 4 22 f13_1 (by decide +kernel) rfl (fun hc1 => ?_) (fun hc1 => ?_)
  · refine zw_iconst 0 23 f13_22 rfl (by decide +kernel) ?_
    refine zw_zreturn f13_23 r13 u13 (by decide +kernel) ⟨_, rfl, ?_⟩
    refine zw_if_ne_f 11 14 f91_8 (by decide +kernel) rfl (by decide +kernel) ?_
    refine zw_ldc (-1000000) 13 f91_11 rfl (by decide +kernel) ?_
    refine zw_ireturn f91_13 r91 u91 ?_
    exact ⟨rfl, by repeat (first | exact zMF_0 | refine zMF_set (by decide) ?_)⟩
  · refine zw_iload_n 5 f13_4 rfl rfl ?_
    refine zw_aload_n 6 f13_5 rfl rfl ?_
    refine zw_getfield 9 f13_6 rfl g13_39_4 rfl rfl ?_
    refine zw_ic_ge_t 22 f13_9 (by decide +kernel) (Int32.not_lt.mp hc1) ?_
    refine zw_iconst 0 23 f13_22 rfl (by decide +kernel) ?_
    refine zw_zreturn f13_23 r13 u13 (by decide +kernel) ⟨_, rfl, ?_⟩
    refine zw_if_ne_f 11 14 f91_8 (by decide +kernel) rfl (by decide +kernel) ?_
    refine zw_ldc (-1000000) 13 f91_11 rfl (by decide +kernel) ?_
    refine zw_ireturn f91_13 r91 u91 ?_
    exact ⟨rfl, by repeat (first | exact zMF_0 | refine zMF_set (by decide) ?_)⟩
set_option maxRecDepth 100000 in
set_option maxHeartbeats 0 in
theorem x_flow_r (ro : UInt32 → Nat × (Nat → Int32)) (a : Int32) : zWp ro 92 0 [(0, .ref 0), (1, .int a)] [] hF 0 0 (fun r h1 => r = some (.int (-1)) ∧ zMF h1) := by
  refine zw_aload_n 1 f92_0 rfl rfl ?_
  refine zw_getfield 4 f92_1 rfl g92_10_11 rfl rfl ?_
  refine zw_iload_n 5 f92_4 rfl rfl ?_
  refine zw_virtual_i 8 0 0 [.ref 1, .int a] [(0, .ref 1), (1, .int a)] f92_5 rfl n92_109 k92_109_4 rfl rfl (by decide +kernel) (Nat.le_of_ble_eq_true rfl) rfl rfl (by decide +kernel) (by decide +kernel) rfl (Nat.le_of_ble_eq_true rfl) rfl ?_
  refine zw_iload_n 1 f14_0 rfl rfl ?_
  refine zw_if_lt 4 22 f14_1 (by decide +kernel) rfl (fun hc1 => ?_) (fun hc1 => ?_)
  · refine zw_iconst 0 23 f14_22 rfl (by decide +kernel) ?_
    refine zw_zreturn f14_23 r14 u14 (by decide +kernel) ⟨_, rfl, ?_⟩
    refine zw_if_ne_f 11 13 f92_8 (by decide +kernel) rfl (by decide +kernel) ?_
    refine zw_iconst (-1) 12 f92_11 rfl (by decide +kernel) ?_
    refine zw_ireturn f92_12 r92 u92 ?_
    exact ⟨rfl, by repeat (first | exact zMF_0 | refine zMF_set (by decide) ?_)⟩
  · refine zw_iload_n 5 f14_4 rfl rfl ?_
    refine zw_aload_n 6 f14_5 rfl rfl ?_
    refine zw_getfield 9 f14_6 rfl g14_43_4 rfl rfl ?_
    refine zw_ic_ge_t 22 f14_9 (by decide +kernel) (Int32.not_lt.mp hc1) ?_
    refine zw_iconst 0 23 f14_22 rfl (by decide +kernel) ?_
    refine zw_zreturn f14_23 r14 u14 (by decide +kernel) ⟨_, rfl, ?_⟩
    refine zw_if_ne_f 11 13 f92_8 (by decide +kernel) rfl (by decide +kernel) ?_
    refine zw_iconst (-1) 12 f92_11 rfl (by decide +kernel) ?_
    refine zw_ireturn f92_12 r92 u92 ?_
    exact ⟨rfl, by repeat (first | exact zMF_0 | refine zMF_set (by decide) ?_)⟩
set_option maxRecDepth 100000 in
set_option maxHeartbeats 0 in
theorem x_flood_r (ro : UInt32 → Nat × (Nat → Int32)) (a : Int32) : zWp ro 93 0 [(0, .ref 0), (1, .int a)] [] hF 0 0 (fun r h1 => r = some (.int (-1)) ∧ zMF h1) := by
  refine zw_aload_n 1 f93_0 rfl rfl ?_
  refine zw_getfield 4 f93_1 rfl g93_10_11 rfl rfl ?_
  refine zw_iload_n 5 f93_4 rfl rfl ?_
  refine zw_virtual_i 8 0 0 [.ref 1, .int a] [(0, .ref 1), (1, .int a)] f93_5 rfl n93_89 k93_89_4 rfl rfl (by decide +kernel) (Nat.le_of_ble_eq_true rfl) rfl rfl (by decide +kernel) (by decide +kernel) rfl (Nat.le_of_ble_eq_true rfl) rfl ?_
  refine zw_iload_n 1 f13_0 rfl rfl ?_
  refine zw_if_lt 4 22 f13_1 (by decide +kernel) rfl (fun hc1 => ?_) (fun hc1 => ?_)
  · refine zw_iconst 0 23 f13_22 rfl (by decide +kernel) ?_
    refine zw_zreturn f13_23 r13 u13 (by decide +kernel) ⟨_, rfl, ?_⟩
    refine zw_if_ne_f 11 13 f93_8 (by decide +kernel) rfl (by decide +kernel) ?_
    refine zw_iconst (-1) 12 f93_11 rfl (by decide +kernel) ?_
    refine zw_ireturn f93_12 r93 u93 ?_
    exact ⟨rfl, by repeat (first | exact zMF_0 | refine zMF_set (by decide) ?_)⟩
  · refine zw_iload_n 5 f13_4 rfl rfl ?_
    refine zw_aload_n 6 f13_5 rfl rfl ?_
    refine zw_getfield 9 f13_6 rfl g13_39_4 rfl rfl ?_
    refine zw_ic_ge_t 22 f13_9 (by decide +kernel) (Int32.not_lt.mp hc1) ?_
    refine zw_iconst 0 23 f13_22 rfl (by decide +kernel) ?_
    refine zw_zreturn f13_23 r13 u13 (by decide +kernel) ⟨_, rfl, ?_⟩
    refine zw_if_ne_f 11 13 f93_8 (by decide +kernel) rfl (by decide +kernel) ?_
    refine zw_iconst (-1) 12 f93_11 rfl (by decide +kernel) ?_
    refine zw_ireturn f93_12 r93 u93 ?_
    exact ⟨rfl, by repeat (first | exact zMF_0 | refine zMF_set (by decide) ?_)⟩
set_option maxRecDepth 100000 in
set_option maxHeartbeats 0 in
theorem x_told_r (ro : UInt32 → Nat × (Nat → Int32)) (a b : Int32) : zWp ro 94 0 [(0, .ref 0), (1, .int a), (2, .int b)] [] hF 0 0 (fun r h1 => r = some (.int (-1)) ∧ zMF h1) := by
  refine zw_aload_n 1 f94_0 rfl rfl ?_
  refine zw_getfield 4 f94_1 rfl g94_10_11 rfl rfl ?_
  refine zw_iload_n 5 f94_4 rfl rfl ?_
  refine zw_virtual_i 8 0 0 [.ref 1, .int a] [(0, .ref 1), (1, .int a)] f94_5 rfl n94_89 k94_89_4 rfl rfl (by decide +kernel) (Nat.le_of_ble_eq_true rfl) rfl rfl (by decide +kernel) (by decide +kernel) rfl (Nat.le_of_ble_eq_true rfl) rfl ?_
  refine zw_iload_n 1 f13_0 rfl rfl ?_
  refine zw_if_lt 4 22 f13_1 (by decide +kernel) rfl (fun hc1 => ?_) (fun hc1 => ?_)
  · refine zw_iconst 0 23 f13_22 rfl (by decide +kernel) ?_
    refine zw_zreturn f13_23 r13 u13 (by decide +kernel) ⟨_, rfl, ?_⟩
    refine zw_if_ne_f 11 13 f94_8 (by decide +kernel) rfl (by decide +kernel) ?_
    refine zw_iconst (-1) 12 f94_11 rfl (by decide +kernel) ?_
    refine zw_ireturn f94_12 r94 u94 ?_
    exact ⟨rfl, by repeat (first | exact zMF_0 | refine zMF_set (by decide) ?_)⟩
  · refine zw_iload_n 5 f13_4 rfl rfl ?_
    refine zw_aload_n 6 f13_5 rfl rfl ?_
    refine zw_getfield 9 f13_6 rfl g13_39_4 rfl rfl ?_
    refine zw_ic_ge_t 22 f13_9 (by decide +kernel) (Int32.not_lt.mp hc1) ?_
    refine zw_iconst 0 23 f13_22 rfl (by decide +kernel) ?_
    refine zw_zreturn f13_23 r13 u13 (by decide +kernel) ⟨_, rfl, ?_⟩
    refine zw_if_ne_f 11 13 f94_8 (by decide +kernel) rfl (by decide +kernel) ?_
    refine zw_iconst (-1) 12 f94_11 rfl (by decide +kernel) ?_
    refine zw_ireturn f94_12 r94 u94 ?_
    exact ⟨rfl, by repeat (first | exact zMF_0 | refine zMF_set (by decide) ?_)⟩
set_option maxRecDepth 100000 in
set_option maxHeartbeats 0 in
theorem x_pipeTold_r (ro : UInt32 → Nat × (Nat → Int32)) (a b : Int32) : zWp ro 95 0 [(0, .ref 0), (1, .int a), (2, .int b)] [] hF 0 0 (fun r h1 => r = some (.int (-2)) ∧ zMF h1) := by
  refine zw_aload_n 1 f95_0 rfl rfl ?_
  refine zw_getfield 4 f95_1 rfl g95_10_11 rfl rfl ?_
  refine zw_iload_n 5 f95_4 rfl rfl ?_
  refine zw_virtual_i 8 0 0 [.ref 1, .int a] [(0, .ref 1), (1, .int a)] f95_5 rfl n95_109 k95_109_4 rfl rfl (by decide +kernel) (Nat.le_of_ble_eq_true rfl) rfl rfl (by decide +kernel) (by decide +kernel) rfl (Nat.le_of_ble_eq_true rfl) rfl ?_
  refine zw_iload_n 1 f14_0 rfl rfl ?_
  refine zw_if_lt 4 22 f14_1 (by decide +kernel) rfl (fun hc1 => ?_) (fun hc1 => ?_)
  · refine zw_iconst 0 23 f14_22 rfl (by decide +kernel) ?_
    refine zw_zreturn f14_23 r14 u14 (by decide +kernel) ⟨_, rfl, ?_⟩
    refine zw_if_ne_f 11 14 f95_8 (by decide +kernel) rfl (by decide +kernel) ?_
    refine zw_bipush (-2) 13 f95_11 rfl (by decide +kernel) ?_
    refine zw_ireturn f95_13 r95 u95 ?_
    exact ⟨rfl, by repeat (first | exact zMF_0 | refine zMF_set (by decide) ?_)⟩
  · refine zw_iload_n 5 f14_4 rfl rfl ?_
    refine zw_aload_n 6 f14_5 rfl rfl ?_
    refine zw_getfield 9 f14_6 rfl g14_43_4 rfl rfl ?_
    refine zw_ic_ge_t 22 f14_9 (by decide +kernel) (Int32.not_lt.mp hc1) ?_
    refine zw_iconst 0 23 f14_22 rfl (by decide +kernel) ?_
    refine zw_zreturn f14_23 r14 u14 (by decide +kernel) ⟨_, rfl, ?_⟩
    refine zw_if_ne_f 11 14 f95_8 (by decide +kernel) rfl (by decide +kernel) ?_
    refine zw_bipush (-2) 13 f95_11 rfl (by decide +kernel) ?_
    refine zw_ireturn f95_13 r95 u95 ?_
    exact ⟨rfl, by repeat (first | exact zMF_0 | refine zMF_set (by decide) ?_)⟩
set_option maxRecDepth 100000 in
set_option maxHeartbeats 0 in
theorem x_count_k0 (ro : UInt32 → Nat × (Nat → Int32)) : zWp ro 96 0 [(0, .ref 0), (1, .int 0)] [] hF 0 0 (fun r h1 => r = some (.int 0) ∧ zMF h1) := by
  refine zw_iload_n 1 f96_0 rfl rfl ?_
  refine zw_table_i (off := 31) 32 f96_1 (by decide +kernel) (by decide +kernel) (by decide +kernel) ?_
  refine zw_aload_n 33 f96_32 rfl rfl ?_
  refine zw_getfield 36 f96_33 rfl g96_10_11 rfl rfl ?_
  refine zw_getfield 39 f96_36 rfl g96_250_4 rfl rfl ?_
  refine zw_ireturn f96_39 r96 u96 ?_
  exact ⟨rfl, by repeat (first | exact zMF_0 | refine zMF_set (by decide) ?_)⟩
set_option maxRecDepth 100000 in
set_option maxHeartbeats 0 in
theorem x_count_k1 (ro : UInt32 → Nat × (Nat → Int32)) : zWp ro 96 0 [(0, .ref 0), (1, .int 1)] [] hF 0 0 (fun r h1 => r = some (.int 0) ∧ zMF h1) := by
  refine zw_iload_n 1 f96_0 rfl rfl ?_
  refine zw_table_i (off := 39) 40 f96_1 (by decide +kernel) (by decide +kernel) (by decide +kernel) ?_
  refine zw_aload_n 41 f96_40 rfl rfl ?_
  refine zw_getfield 44 f96_41 rfl g96_10_11 rfl rfl ?_
  refine zw_getfield 47 f96_44 rfl g96_253_4 rfl rfl ?_
  refine zw_ireturn f96_47 r96 u96 ?_
  exact ⟨rfl, by repeat (first | exact zMF_0 | refine zMF_set (by decide) ?_)⟩
set_option maxRecDepth 100000 in
set_option maxHeartbeats 0 in
theorem x_count_k2 (ro : UInt32 → Nat × (Nat → Int32)) : zWp ro 96 0 [(0, .ref 0), (1, .int 2)] [] hF 0 0 (fun r h1 => r = some (.int 0) ∧ zMF h1) := by
  refine zw_iload_n 1 f96_0 rfl rfl ?_
  refine zw_table_i (off := 47) 48 f96_1 (by decide +kernel) (by decide +kernel) (by decide +kernel) ?_
  refine zw_aload_n 49 f96_48 rfl rfl ?_
  refine zw_getfield 52 f96_49 rfl g96_31_11 rfl rfl ?_
  refine zw_getfield 55 f96_52 rfl g96_164_3 rfl rfl ?_
  refine zw_ireturn f96_55 r96 u96 ?_
  exact ⟨rfl, by repeat (first | exact zMF_0 | refine zMF_set (by decide) ?_)⟩
set_option maxRecDepth 100000 in
set_option maxHeartbeats 0 in
theorem x_count_k3 (ro : UInt32 → Nat × (Nat → Int32)) : zWp ro 96 0 [(0, .ref 0), (1, .int 3)] [] hF 0 0 (fun r h1 => r = some (.int 0) ∧ zMF h1) := by
  refine zw_iload_n 1 f96_0 rfl rfl ?_
  refine zw_table_i (off := 55) 56 f96_1 (by decide +kernel) (by decide +kernel) (by decide +kernel) ?_
  refine zw_aload_n 57 f96_56 rfl rfl ?_
  refine zw_getfield 60 f96_57 rfl g96_45_11 rfl rfl ?_
  refine zw_getfield 63 f96_60 rfl g96_256_0 rfl rfl ?_
  refine zw_ireturn f96_63 r96 u96 ?_
  exact ⟨rfl, by repeat (first | exact zMF_0 | refine zMF_set (by decide) ?_)⟩
set_option maxRecDepth 100000 in
set_option maxHeartbeats 0 in
theorem x_count_o (ro : UInt32 → Nat × (Nat → Int32)) (a : Int32) (h1 : a.toInt < 0 ∨ (3 : Int) < a.toInt) : zWp ro 96 0 [(0, .ref 0), (1, .int a)] [] hF 0 0 (fun r h1 => r = some (.int (-1)) ∧ zMF h1) := by
  refine zw_iload_n 1 f96_0 rfl rfl ?_
  refine zw_table_o 64 f96_1 h1 (by decide +kernel) ?_
  refine zw_iconst (-1) 65 f96_64 rfl (by decide +kernel) ?_
  refine zw_ireturn f96_65 r96 u96 ?_
  exact ⟨rfl, by repeat (first | exact zMF_0 | refine zMF_set (by decide) ?_)⟩
set_option maxRecDepth 100000 in
set_option maxHeartbeats 0 in
theorem x_event_r (ro : UInt32 → Nat × (Nat → Int32)) (a b : Int32) : zWp ro 97 0 [(0, .ref 0), (1, .int a), (2, .int b)] [] hF 0 0 (fun r h1 => r = some (.int (-1)) ∧ zMF h1) := by
  refine zw_aload_n 1 f97_0 rfl rfl ?_
  refine zw_getfield 4 f97_1 rfl g97_31_11 rfl rfl ?_
  refine zw_iload_n 5 f97_4 rfl rfl ?_
  refine zw_iload_n 6 f97_5 rfl rfl ?_
  refine zw_virtual_i 9 0 0 [.ref 33, .int a, .int b] [(0, .ref 33), (1, .int a), (2, .int b)] f97_6 rfl n97_259 k97_259_3 rfl rfl (by decide +kernel) (Nat.le_of_ble_eq_true rfl) rfl rfl (by decide +kernel) (by decide +kernel) rfl (Nat.le_of_ble_eq_true rfl) rfl ?_
  refine zw_iload_n 1 f11_0 rfl rfl ?_
  refine zw_if_lt 4 19 f11_1 (by decide +kernel) rfl (fun hc1 => ?_) (fun hc1 => ?_)
  · refine zw_iconst (-1) 20 f11_19 rfl (by decide +kernel) ?_
    refine zw_ireturn f11_20 r11 u11 ⟨_, rfl, ?_⟩
    refine zw_ireturn f97_9 r97 u97 ?_
    exact ⟨rfl, by repeat (first | exact zMF_0 | refine zMF_set (by decide) ?_)⟩
  · refine zw_iload_n 5 f11_4 rfl rfl ?_
    refine zw_aload_n 6 f11_5 rfl rfl ?_
    refine zw_getfield 9 f11_6 rfl g11_30_3 rfl rfl ?_
    refine zw_ic_ge_t 19 f11_9 (by decide +kernel) (Int32.not_lt.mp hc1) ?_
    refine zw_iconst (-1) 20 f11_19 rfl (by decide +kernel) ?_
    refine zw_ireturn f11_20 r11 u11 ⟨_, rfl, ?_⟩
    refine zw_ireturn f97_9 r97 u97 ?_
    exact ⟨rfl, by repeat (first | exact zMF_0 | refine zMF_set (by decide) ?_)⟩
set_option maxRecDepth 100000 in
set_option maxHeartbeats 0 in
theorem x_sum_k0 (ro : UInt32 → Nat × (Nat → Int32)) : zWp ro 98 0 [(0, .ref 0), (1, .int 0)] [] hF 0 0 (fun r h1 => r = some (.long 0) ∧ zMF h1) := by
  refine zw_aload_n 1 f98_0 rfl rfl ?_
  refine zw_getfield 4 f98_1 rfl g98_21_11 rfl rfl ?_
  refine zw_getfield 7 f98_4 rfl g98_134_10 rfl rfl ?_
  refine zw_astore_n [(2, .ref 12), (0, .ref 0), (1, .int 0)] 8 f98_7 rfl (by decide +kernel) rfl ?_
  refine zw_iload_n 9 f98_8 rfl rfl ?_
  refine zw_table_i (off := 43) 52 f98_9 (by decide +kernel) (by decide +kernel) (by decide +kernel) ?_
  refine zw_aload_n 53 f98_52 rfl rfl ?_
  refine zw_getfield 56 f98_53 rfl g98_260_9 rfl rfl ?_
  refine zw_aload_n 57 f98_56 rfl rfl ?_
  refine zw_getfield 60 f98_57 rfl g98_151_9 rfl rfl ?_
  refine zw_iload_n 61 f98_60 rfl rfl ?_
  refine zw_static_l 64 0 0 [.long 0, .long 1, .int 0] [] [(0, .long 0), (2, .long 1), (4, .int 0)] f98_61 rfl k98_210_99 rfl (by decide +kernel) (Nat.le_of_ble_eq_true rfl) (Nat.le_of_ble_eq_true rfl) rfl rfl (by decide +kernel) (by decide +kernel) rfl (Nat.le_of_ble_eq_true rfl) rfl ?_
  refine zw_iload 2 f118_0 rfl rfl ?_
  refine zw_if_ne_f 5 13 f118_2 (by decide +kernel) rfl (by decide +kernel) ?_
  refine zw_lload_n 6 f118_5 rfl rfl ?_
  refine zw_lload_n 7 f118_6 rfl rfl ?_
  refine zw_static_l 10 0 0 [.long 0, .long 1] [] [(0, .long 0), (2, .long 1)] f118_7 rfl k118_194_99 rfl (by decide +kernel) (Nat.le_of_ble_eq_true rfl) (Nat.le_of_ble_eq_true rfl) rfl rfl (by decide +kernel) (by decide +kernel) rfl (Nat.le_of_ble_eq_true rfl) rfl ?_
  refine zw_lload_n 1 f116_0 rfl rfl ?_
  refine zw_lload_n 2 f116_1 rfl rfl ?_
  refine zw_static_l 5 0 0 [.long 0, .long 1] [] [(0, .long 0), (2, .long 1)] f116_2 rfl k116_336_99 rfl (by decide +kernel) (Nat.le_of_ble_eq_true rfl) (Nat.le_of_ble_eq_true rfl) rfl rfl (by decide +kernel) (by decide +kernel) rfl (Nat.le_of_ble_eq_true rfl) rfl ?_
  refine zw_lload_n 1 f115_0 rfl rfl ?_
  refine zw_lstore [(4, .long 0), (0, .long 0), (2, .long 1)] 3 f115_1 rfl (by decide +kernel) rfl ?_
  refine zw_lload_n 4 f115_3 rfl rfl ?_
  refine zw_lstore [(6, .long 1), (4, .long 0), (0, .long 0), (2, .long 1)] 6 f115_4 rfl (by decide +kernel) rfl ?_
  refine zw_iconst 0 7 f115_6 rfl (by decide +kernel) ?_
  refine zw_istore [(8, .int 0), (6, .long 1), (4, .long 0), (0, .long 0), (2, .long 1)] 9 f115_7 rfl (by decide +kernel) rfl ?_
  refine zw_iload 11 f115_9 rfl rfl ?_
  refine zw_sipush 200 14 f115_11 rfl (by decide +kernel) ?_
  refine zw_ic_ge_f 17 45 f115_14 (by decide +kernel) rfl (by decide +kernel) ?_
  refine zw_lload 19 f115_17 rfl rfl ?_
  refine zw_lconst 0 20 f115_19 rfl (by decide +kernel) ?_
  refine zw_lcmp 1 21 f115_20 rfl (by decide +kernel) ?_
  refine zw_if_eq_f 24 45 f115_21 (by decide +kernel) rfl (by decide +kernel) ?_
  refine zw_lload 26 f115_24 rfl rfl ?_
  refine zw_lload 28 f115_26 rfl rfl ?_
  refine zw_lrem 0 29 f115_28 rfl (by decide +kernel) (by decide +kernel) ?_
  refine zw_lstore [(9, .long 0), (8, .int 0), (6, .long 1), (4, .long 0), (0, .long 0), (2, .long 1)] 31 f115_29 rfl (by decide +kernel) rfl ?_
  refine zw_lload 33 f115_31 rfl rfl ?_
  refine zw_lstore [(4, .long 1), (9, .long 0), (8, .int 0), (6, .long 1), (0, .long 0), (2, .long 1)] 35 f115_33 rfl (by decide +kernel) rfl ?_
  refine zw_lload 37 f115_35 rfl rfl ?_
  refine zw_lstore [(6, .long 0), (4, .long 1), (9, .long 0), (8, .int 0), (0, .long 0), (2, .long 1)] 39 f115_37 rfl (by decide +kernel) rfl ?_
  refine zw_iinc 1 [(8, .int 1), (6, .long 0), (4, .long 1), (9, .long 0), (0, .long 0), (2, .long 1)] 42 f115_39 rfl rfl (by decide +kernel) (by decide +kernel) rfl ?_
  refine zw_goto 9 f115_42 (by decide +kernel) ?_
  refine zw_iload 11 f115_9 rfl rfl ?_
  refine zw_sipush 200 14 f115_11 rfl (by decide +kernel) ?_
  refine zw_ic_ge_f 17 45 f115_14 (by decide +kernel) rfl (by decide +kernel) ?_
  refine zw_lload 19 f115_17 rfl rfl ?_
  refine zw_lconst 0 20 f115_19 rfl (by decide +kernel) ?_
  refine zw_lcmp 0 21 f115_20 rfl (by decide +kernel) ?_
  refine zw_if_eq_t 45 f115_21 (by decide +kernel) (by decide +kernel) ?_
  refine zw_lload 47 f115_45 rfl rfl ?_
  refine zw_lconst 0 48 f115_47 rfl (by decide +kernel) ?_
  refine zw_lcmp 1 49 f115_48 rfl (by decide +kernel) ?_
  refine zw_if_ne_t 56 f115_49 (by decide +kernel) (by decide +kernel) ?_
  refine zw_lload 58 f115_56 rfl rfl ?_
  refine zw_lreturn f115_58 r115 u115 ⟨_, rfl, ?_⟩
  refine zw_lstore [(4, .long 1), (0, .long 0), (2, .long 1)] 7 f116_5 rfl (by decide +kernel) rfl ?_
  refine zw_lload 9 f116_7 rfl rfl ?_
  refine zw_lconst 0 10 f116_9 rfl (by decide +kernel) ?_
  refine zw_lcmp 1 11 f116_10 rfl (by decide +kernel) ?_
  refine zw_if_ne_t 18 f116_11 (by decide +kernel) (by decide +kernel) ?_
  refine zw_lload_n 19 f116_18 rfl rfl ?_
  refine zw_lload 21 f116_19 rfl rfl ?_
  refine zw_ldiv 0 22 f116_21 rfl (by decide +kernel) (by decide +kernel) ?_
  refine zw_lreturn f116_22 r116 u116 ⟨_, rfl, ?_⟩
  refine zw_goto 18 f118_10 (by decide +kernel) ?_
  refine zw_lreturn f118_18 r118 u118 ⟨_, rfl, ?_⟩
  refine zw_lreturn f98_64 r98 u98 ?_
  exact ⟨rfl, by repeat (first | exact zMF_0 | refine zMF_set (by decide) ?_)⟩
set_option maxRecDepth 100000 in
set_option maxHeartbeats 0 in
theorem x_sum_k1 (ro : UInt32 → Nat × (Nat → Int32)) : zWp ro 98 0 [(0, .ref 0), (1, .int 1)] [] hF 0 0 (fun r h1 => r = some (.long 1) ∧ zMF h1) := by
  refine zw_aload_n 1 f98_0 rfl rfl ?_
  refine zw_getfield 4 f98_1 rfl g98_21_11 rfl rfl ?_
  refine zw_getfield 7 f98_4 rfl g98_134_10 rfl rfl ?_
  refine zw_astore_n [(2, .ref 12), (0, .ref 0), (1, .int 1)] 8 f98_7 rfl (by decide +kernel) rfl ?_
  refine zw_iload_n 9 f98_8 rfl rfl ?_
  refine zw_table_i (off := 43) 52 f98_9 (by decide +kernel) (by decide +kernel) (by decide +kernel) ?_
  refine zw_aload_n 53 f98_52 rfl rfl ?_
  refine zw_getfield 56 f98_53 rfl g98_260_9 rfl rfl ?_
  refine zw_aload_n 57 f98_56 rfl rfl ?_
  refine zw_getfield 60 f98_57 rfl g98_151_9 rfl rfl ?_
  refine zw_iload_n 61 f98_60 rfl rfl ?_
  refine zw_static_l 64 0 0 [.long 0, .long 1, .int 1] [] [(0, .long 0), (2, .long 1), (4, .int 1)] f98_61 rfl k98_210_99 rfl (by decide +kernel) (Nat.le_of_ble_eq_true rfl) (Nat.le_of_ble_eq_true rfl) rfl rfl (by decide +kernel) (by decide +kernel) rfl (Nat.le_of_ble_eq_true rfl) rfl ?_
  refine zw_iload 2 f118_0 rfl rfl ?_
  refine zw_if_ne_t 13 f118_2 (by decide +kernel) (by decide +kernel) ?_
  refine zw_lload_n 14 f118_13 rfl rfl ?_
  refine zw_lload_n 15 f118_14 rfl rfl ?_
  refine zw_static_l 18 0 0 [.long 0, .long 1] [] [(0, .long 0), (2, .long 1)] f118_15 rfl k118_198_99 rfl (by decide +kernel) (Nat.le_of_ble_eq_true rfl) (Nat.le_of_ble_eq_true rfl) rfl rfl (by decide +kernel) (by decide +kernel) rfl (Nat.le_of_ble_eq_true rfl) rfl ?_
  refine zw_lload_n 1 f117_0 rfl rfl ?_
  refine zw_lload_n 2 f117_1 rfl rfl ?_
  refine zw_static_l 5 0 0 [.long 0, .long 1] [] [(0, .long 0), (2, .long 1)] f117_2 rfl k117_336_99 rfl (by decide +kernel) (Nat.le_of_ble_eq_true rfl) (Nat.le_of_ble_eq_true rfl) rfl rfl (by decide +kernel) (by decide +kernel) rfl (Nat.le_of_ble_eq_true rfl) rfl ?_
  refine zw_lload_n 1 f115_0 rfl rfl ?_
  refine zw_lstore [(4, .long 0), (0, .long 0), (2, .long 1)] 3 f115_1 rfl (by decide +kernel) rfl ?_
  refine zw_lload_n 4 f115_3 rfl rfl ?_
  refine zw_lstore [(6, .long 1), (4, .long 0), (0, .long 0), (2, .long 1)] 6 f115_4 rfl (by decide +kernel) rfl ?_
  refine zw_iconst 0 7 f115_6 rfl (by decide +kernel) ?_
  refine zw_istore [(8, .int 0), (6, .long 1), (4, .long 0), (0, .long 0), (2, .long 1)] 9 f115_7 rfl (by decide +kernel) rfl ?_
  refine zw_iload 11 f115_9 rfl rfl ?_
  refine zw_sipush 200 14 f115_11 rfl (by decide +kernel) ?_
  refine zw_ic_ge_f 17 45 f115_14 (by decide +kernel) rfl (by decide +kernel) ?_
  refine zw_lload 19 f115_17 rfl rfl ?_
  refine zw_lconst 0 20 f115_19 rfl (by decide +kernel) ?_
  refine zw_lcmp 1 21 f115_20 rfl (by decide +kernel) ?_
  refine zw_if_eq_f 24 45 f115_21 (by decide +kernel) rfl (by decide +kernel) ?_
  refine zw_lload 26 f115_24 rfl rfl ?_
  refine zw_lload 28 f115_26 rfl rfl ?_
  refine zw_lrem 0 29 f115_28 rfl (by decide +kernel) (by decide +kernel) ?_
  refine zw_lstore [(9, .long 0), (8, .int 0), (6, .long 1), (4, .long 0), (0, .long 0), (2, .long 1)] 31 f115_29 rfl (by decide +kernel) rfl ?_
  refine zw_lload 33 f115_31 rfl rfl ?_
  refine zw_lstore [(4, .long 1), (9, .long 0), (8, .int 0), (6, .long 1), (0, .long 0), (2, .long 1)] 35 f115_33 rfl (by decide +kernel) rfl ?_
  refine zw_lload 37 f115_35 rfl rfl ?_
  refine zw_lstore [(6, .long 0), (4, .long 1), (9, .long 0), (8, .int 0), (0, .long 0), (2, .long 1)] 39 f115_37 rfl (by decide +kernel) rfl ?_
  refine zw_iinc 1 [(8, .int 1), (6, .long 0), (4, .long 1), (9, .long 0), (0, .long 0), (2, .long 1)] 42 f115_39 rfl rfl (by decide +kernel) (by decide +kernel) rfl ?_
  refine zw_goto 9 f115_42 (by decide +kernel) ?_
  refine zw_iload 11 f115_9 rfl rfl ?_
  refine zw_sipush 200 14 f115_11 rfl (by decide +kernel) ?_
  refine zw_ic_ge_f 17 45 f115_14 (by decide +kernel) rfl (by decide +kernel) ?_
  refine zw_lload 19 f115_17 rfl rfl ?_
  refine zw_lconst 0 20 f115_19 rfl (by decide +kernel) ?_
  refine zw_lcmp 0 21 f115_20 rfl (by decide +kernel) ?_
  refine zw_if_eq_t 45 f115_21 (by decide +kernel) (by decide +kernel) ?_
  refine zw_lload 47 f115_45 rfl rfl ?_
  refine zw_lconst 0 48 f115_47 rfl (by decide +kernel) ?_
  refine zw_lcmp 1 49 f115_48 rfl (by decide +kernel) ?_
  refine zw_if_ne_t 56 f115_49 (by decide +kernel) (by decide +kernel) ?_
  refine zw_lload 58 f115_56 rfl rfl ?_
  refine zw_lreturn f115_58 r115 u115 ⟨_, rfl, ?_⟩
  refine zw_lstore [(4, .long 1), (0, .long 0), (2, .long 1)] 7 f117_5 rfl (by decide +kernel) rfl ?_
  refine zw_lload 9 f117_7 rfl rfl ?_
  refine zw_lconst 0 10 f117_9 rfl (by decide +kernel) ?_
  refine zw_lcmp 1 11 f117_10 rfl (by decide +kernel) ?_
  refine zw_if_ne_t 18 f117_11 (by decide +kernel) (by decide +kernel) ?_
  refine zw_lload_n 19 f117_18 rfl rfl ?_
  refine zw_lload 21 f117_19 rfl rfl ?_
  refine zw_ldiv 1 22 f117_21 rfl (by decide +kernel) (by decide +kernel) ?_
  refine zw_lreturn f117_22 r117 u117 ⟨_, rfl, ?_⟩
  refine zw_lreturn f118_18 r118 u118 ⟨_, rfl, ?_⟩
  refine zw_lreturn f98_64 r98 u98 ?_
  exact ⟨rfl, by repeat (first | exact zMF_0 | refine zMF_set (by decide) ?_)⟩
set_option maxRecDepth 100000 in
set_option maxHeartbeats 0 in
theorem x_sum_k2 (ro : UInt32 → Nat × (Nat → Int32)) : zWp ro 98 0 [(0, .ref 0), (1, .int 2)] [] hF 0 0 (fun r h1 => r = some (.long 0) ∧ zMF h1) := by
  refine zw_aload_n 1 f98_0 rfl rfl ?_
  refine zw_getfield 4 f98_1 rfl g98_21_11 rfl rfl ?_
  refine zw_getfield 7 f98_4 rfl g98_134_10 rfl rfl ?_
  refine zw_astore_n [(2, .ref 12), (0, .ref 0), (1, .int 2)] 8 f98_7 rfl (by decide +kernel) rfl ?_
  refine zw_iload_n 9 f98_8 rfl rfl ?_
  refine zw_table_i (off := 56) 65 f98_9 (by decide +kernel) (by decide +kernel) (by decide +kernel) ?_
  refine zw_aload_n 66 f98_65 rfl rfl ?_
  refine zw_getfield 69 f98_66 rfl g98_147_9 rfl rfl ?_
  refine zw_lreturn f98_69 r98 u98 ?_
  exact ⟨rfl, by repeat (first | exact zMF_0 | refine zMF_set (by decide) ?_)⟩
set_option maxRecDepth 100000 in
set_option maxHeartbeats 0 in
theorem x_sum_k3 (ro : UInt32 → Nat × (Nat → Int32)) : zWp ro 98 0 [(0, .ref 0), (1, .int 3)] [] hF 0 0 (fun r h1 => r = some (.long 0) ∧ zMF h1) := by
  refine zw_aload_n 1 f98_0 rfl rfl ?_
  refine zw_getfield 4 f98_1 rfl g98_21_11 rfl rfl ?_
  refine zw_getfield 7 f98_4 rfl g98_134_10 rfl rfl ?_
  refine zw_astore_n [(2, .ref 12), (0, .ref 0), (1, .int 3)] 8 f98_7 rfl (by decide +kernel) rfl ?_
  refine zw_iload_n 9 f98_8 rfl rfl ?_
  refine zw_table_i (off := 61) 70 f98_9 (by decide +kernel) (by decide +kernel) (by decide +kernel) ?_
  refine zw_aload_n 71 f98_70 rfl rfl ?_
  refine zw_getfield 74 f98_71 rfl g98_263_9 rfl rfl ?_
  refine zw_aload_n 75 f98_74 rfl rfl ?_
  refine zw_getfield 78 f98_75 rfl g98_151_9 rfl rfl ?_
  refine zw_iload_n 79 f98_78 rfl rfl ?_
  refine zw_iconst 3 80 f98_79 rfl (by decide +kernel) ?_
  refine zw_isub 0 81 f98_80 rfl (by decide +kernel) ?_
  refine zw_static_l 84 0 0 [.long 0, .long 1, .int 0] [] [(0, .long 0), (2, .long 1), (4, .int 0)] f98_81 rfl k98_210_99 rfl (by decide +kernel) (Nat.le_of_ble_eq_true rfl) (Nat.le_of_ble_eq_true rfl) rfl rfl (by decide +kernel) (by decide +kernel) rfl (Nat.le_of_ble_eq_true rfl) rfl ?_
  refine zw_iload 2 f118_0 rfl rfl ?_
  refine zw_if_ne_f 5 13 f118_2 (by decide +kernel) rfl (by decide +kernel) ?_
  refine zw_lload_n 6 f118_5 rfl rfl ?_
  refine zw_lload_n 7 f118_6 rfl rfl ?_
  refine zw_static_l 10 0 0 [.long 0, .long 1] [] [(0, .long 0), (2, .long 1)] f118_7 rfl k118_194_99 rfl (by decide +kernel) (Nat.le_of_ble_eq_true rfl) (Nat.le_of_ble_eq_true rfl) rfl rfl (by decide +kernel) (by decide +kernel) rfl (Nat.le_of_ble_eq_true rfl) rfl ?_
  refine zw_lload_n 1 f116_0 rfl rfl ?_
  refine zw_lload_n 2 f116_1 rfl rfl ?_
  refine zw_static_l 5 0 0 [.long 0, .long 1] [] [(0, .long 0), (2, .long 1)] f116_2 rfl k116_336_99 rfl (by decide +kernel) (Nat.le_of_ble_eq_true rfl) (Nat.le_of_ble_eq_true rfl) rfl rfl (by decide +kernel) (by decide +kernel) rfl (Nat.le_of_ble_eq_true rfl) rfl ?_
  refine zw_lload_n 1 f115_0 rfl rfl ?_
  refine zw_lstore [(4, .long 0), (0, .long 0), (2, .long 1)] 3 f115_1 rfl (by decide +kernel) rfl ?_
  refine zw_lload_n 4 f115_3 rfl rfl ?_
  refine zw_lstore [(6, .long 1), (4, .long 0), (0, .long 0), (2, .long 1)] 6 f115_4 rfl (by decide +kernel) rfl ?_
  refine zw_iconst 0 7 f115_6 rfl (by decide +kernel) ?_
  refine zw_istore [(8, .int 0), (6, .long 1), (4, .long 0), (0, .long 0), (2, .long 1)] 9 f115_7 rfl (by decide +kernel) rfl ?_
  refine zw_iload 11 f115_9 rfl rfl ?_
  refine zw_sipush 200 14 f115_11 rfl (by decide +kernel) ?_
  refine zw_ic_ge_f 17 45 f115_14 (by decide +kernel) rfl (by decide +kernel) ?_
  refine zw_lload 19 f115_17 rfl rfl ?_
  refine zw_lconst 0 20 f115_19 rfl (by decide +kernel) ?_
  refine zw_lcmp 1 21 f115_20 rfl (by decide +kernel) ?_
  refine zw_if_eq_f 24 45 f115_21 (by decide +kernel) rfl (by decide +kernel) ?_
  refine zw_lload 26 f115_24 rfl rfl ?_
  refine zw_lload 28 f115_26 rfl rfl ?_
  refine zw_lrem 0 29 f115_28 rfl (by decide +kernel) (by decide +kernel) ?_
  refine zw_lstore [(9, .long 0), (8, .int 0), (6, .long 1), (4, .long 0), (0, .long 0), (2, .long 1)] 31 f115_29 rfl (by decide +kernel) rfl ?_
  refine zw_lload 33 f115_31 rfl rfl ?_
  refine zw_lstore [(4, .long 1), (9, .long 0), (8, .int 0), (6, .long 1), (0, .long 0), (2, .long 1)] 35 f115_33 rfl (by decide +kernel) rfl ?_
  refine zw_lload 37 f115_35 rfl rfl ?_
  refine zw_lstore [(6, .long 0), (4, .long 1), (9, .long 0), (8, .int 0), (0, .long 0), (2, .long 1)] 39 f115_37 rfl (by decide +kernel) rfl ?_
  refine zw_iinc 1 [(8, .int 1), (6, .long 0), (4, .long 1), (9, .long 0), (0, .long 0), (2, .long 1)] 42 f115_39 rfl rfl (by decide +kernel) (by decide +kernel) rfl ?_
  refine zw_goto 9 f115_42 (by decide +kernel) ?_
  refine zw_iload 11 f115_9 rfl rfl ?_
  refine zw_sipush 200 14 f115_11 rfl (by decide +kernel) ?_
  refine zw_ic_ge_f 17 45 f115_14 (by decide +kernel) rfl (by decide +kernel) ?_
  refine zw_lload 19 f115_17 rfl rfl ?_
  refine zw_lconst 0 20 f115_19 rfl (by decide +kernel) ?_
  refine zw_lcmp 0 21 f115_20 rfl (by decide +kernel) ?_
  refine zw_if_eq_t 45 f115_21 (by decide +kernel) (by decide +kernel) ?_
  refine zw_lload 47 f115_45 rfl rfl ?_
  refine zw_lconst 0 48 f115_47 rfl (by decide +kernel) ?_
  refine zw_lcmp 1 49 f115_48 rfl (by decide +kernel) ?_
  refine zw_if_ne_t 56 f115_49 (by decide +kernel) (by decide +kernel) ?_
  refine zw_lload 58 f115_56 rfl rfl ?_
  refine zw_lreturn f115_58 r115 u115 ⟨_, rfl, ?_⟩
  refine zw_lstore [(4, .long 1), (0, .long 0), (2, .long 1)] 7 f116_5 rfl (by decide +kernel) rfl ?_
  refine zw_lload 9 f116_7 rfl rfl ?_
  refine zw_lconst 0 10 f116_9 rfl (by decide +kernel) ?_
  refine zw_lcmp 1 11 f116_10 rfl (by decide +kernel) ?_
  refine zw_if_ne_t 18 f116_11 (by decide +kernel) (by decide +kernel) ?_
  refine zw_lload_n 19 f116_18 rfl rfl ?_
  refine zw_lload 21 f116_19 rfl rfl ?_
  refine zw_ldiv 0 22 f116_21 rfl (by decide +kernel) (by decide +kernel) ?_
  refine zw_lreturn f116_22 r116 u116 ⟨_, rfl, ?_⟩
  refine zw_goto 18 f118_10 (by decide +kernel) ?_
  refine zw_lreturn f118_18 r118 u118 ⟨_, rfl, ?_⟩
  refine zw_lreturn f98_84 r98 u98 ?_
  exact ⟨rfl, by repeat (first | exact zMF_0 | refine zMF_set (by decide) ?_)⟩
set_option maxRecDepth 100000 in
set_option maxHeartbeats 0 in
theorem x_sum_k4 (ro : UInt32 → Nat × (Nat → Int32)) : zWp ro 98 0 [(0, .ref 0), (1, .int 4)] [] hF 0 0 (fun r h1 => r = some (.long 1) ∧ zMF h1) := by
  refine zw_aload_n 1 f98_0 rfl rfl ?_
  refine zw_getfield 4 f98_1 rfl g98_21_11 rfl rfl ?_
  refine zw_getfield 7 f98_4 rfl g98_134_10 rfl rfl ?_
  refine zw_astore_n [(2, .ref 12), (0, .ref 0), (1, .int 4)] 8 f98_7 rfl (by decide +kernel) rfl ?_
  refine zw_iload_n 9 f98_8 rfl rfl ?_
  refine zw_table_i (off := 61) 70 f98_9 (by decide +kernel) (by decide +kernel) (by decide +kernel) ?_
  refine zw_aload_n 71 f98_70 rfl rfl ?_
  refine zw_getfield 74 f98_71 rfl g98_263_9 rfl rfl ?_
  refine zw_aload_n 75 f98_74 rfl rfl ?_
  refine zw_getfield 78 f98_75 rfl g98_151_9 rfl rfl ?_
  refine zw_iload_n 79 f98_78 rfl rfl ?_
  refine zw_iconst 3 80 f98_79 rfl (by decide +kernel) ?_
  refine zw_isub 1 81 f98_80 rfl (by decide +kernel) ?_
  refine zw_static_l 84 0 0 [.long 0, .long 1, .int 1] [] [(0, .long 0), (2, .long 1), (4, .int 1)] f98_81 rfl k98_210_99 rfl (by decide +kernel) (Nat.le_of_ble_eq_true rfl) (Nat.le_of_ble_eq_true rfl) rfl rfl (by decide +kernel) (by decide +kernel) rfl (Nat.le_of_ble_eq_true rfl) rfl ?_
  refine zw_iload 2 f118_0 rfl rfl ?_
  refine zw_if_ne_t 13 f118_2 (by decide +kernel) (by decide +kernel) ?_
  refine zw_lload_n 14 f118_13 rfl rfl ?_
  refine zw_lload_n 15 f118_14 rfl rfl ?_
  refine zw_static_l 18 0 0 [.long 0, .long 1] [] [(0, .long 0), (2, .long 1)] f118_15 rfl k118_198_99 rfl (by decide +kernel) (Nat.le_of_ble_eq_true rfl) (Nat.le_of_ble_eq_true rfl) rfl rfl (by decide +kernel) (by decide +kernel) rfl (Nat.le_of_ble_eq_true rfl) rfl ?_
  refine zw_lload_n 1 f117_0 rfl rfl ?_
  refine zw_lload_n 2 f117_1 rfl rfl ?_
  refine zw_static_l 5 0 0 [.long 0, .long 1] [] [(0, .long 0), (2, .long 1)] f117_2 rfl k117_336_99 rfl (by decide +kernel) (Nat.le_of_ble_eq_true rfl) (Nat.le_of_ble_eq_true rfl) rfl rfl (by decide +kernel) (by decide +kernel) rfl (Nat.le_of_ble_eq_true rfl) rfl ?_
  refine zw_lload_n 1 f115_0 rfl rfl ?_
  refine zw_lstore [(4, .long 0), (0, .long 0), (2, .long 1)] 3 f115_1 rfl (by decide +kernel) rfl ?_
  refine zw_lload_n 4 f115_3 rfl rfl ?_
  refine zw_lstore [(6, .long 1), (4, .long 0), (0, .long 0), (2, .long 1)] 6 f115_4 rfl (by decide +kernel) rfl ?_
  refine zw_iconst 0 7 f115_6 rfl (by decide +kernel) ?_
  refine zw_istore [(8, .int 0), (6, .long 1), (4, .long 0), (0, .long 0), (2, .long 1)] 9 f115_7 rfl (by decide +kernel) rfl ?_
  refine zw_iload 11 f115_9 rfl rfl ?_
  refine zw_sipush 200 14 f115_11 rfl (by decide +kernel) ?_
  refine zw_ic_ge_f 17 45 f115_14 (by decide +kernel) rfl (by decide +kernel) ?_
  refine zw_lload 19 f115_17 rfl rfl ?_
  refine zw_lconst 0 20 f115_19 rfl (by decide +kernel) ?_
  refine zw_lcmp 1 21 f115_20 rfl (by decide +kernel) ?_
  refine zw_if_eq_f 24 45 f115_21 (by decide +kernel) rfl (by decide +kernel) ?_
  refine zw_lload 26 f115_24 rfl rfl ?_
  refine zw_lload 28 f115_26 rfl rfl ?_
  refine zw_lrem 0 29 f115_28 rfl (by decide +kernel) (by decide +kernel) ?_
  refine zw_lstore [(9, .long 0), (8, .int 0), (6, .long 1), (4, .long 0), (0, .long 0), (2, .long 1)] 31 f115_29 rfl (by decide +kernel) rfl ?_
  refine zw_lload 33 f115_31 rfl rfl ?_
  refine zw_lstore [(4, .long 1), (9, .long 0), (8, .int 0), (6, .long 1), (0, .long 0), (2, .long 1)] 35 f115_33 rfl (by decide +kernel) rfl ?_
  refine zw_lload 37 f115_35 rfl rfl ?_
  refine zw_lstore [(6, .long 0), (4, .long 1), (9, .long 0), (8, .int 0), (0, .long 0), (2, .long 1)] 39 f115_37 rfl (by decide +kernel) rfl ?_
  refine zw_iinc 1 [(8, .int 1), (6, .long 0), (4, .long 1), (9, .long 0), (0, .long 0), (2, .long 1)] 42 f115_39 rfl rfl (by decide +kernel) (by decide +kernel) rfl ?_
  refine zw_goto 9 f115_42 (by decide +kernel) ?_
  refine zw_iload 11 f115_9 rfl rfl ?_
  refine zw_sipush 200 14 f115_11 rfl (by decide +kernel) ?_
  refine zw_ic_ge_f 17 45 f115_14 (by decide +kernel) rfl (by decide +kernel) ?_
  refine zw_lload 19 f115_17 rfl rfl ?_
  refine zw_lconst 0 20 f115_19 rfl (by decide +kernel) ?_
  refine zw_lcmp 0 21 f115_20 rfl (by decide +kernel) ?_
  refine zw_if_eq_t 45 f115_21 (by decide +kernel) (by decide +kernel) ?_
  refine zw_lload 47 f115_45 rfl rfl ?_
  refine zw_lconst 0 48 f115_47 rfl (by decide +kernel) ?_
  refine zw_lcmp 1 49 f115_48 rfl (by decide +kernel) ?_
  refine zw_if_ne_t 56 f115_49 (by decide +kernel) (by decide +kernel) ?_
  refine zw_lload 58 f115_56 rfl rfl ?_
  refine zw_lreturn f115_58 r115 u115 ⟨_, rfl, ?_⟩
  refine zw_lstore [(4, .long 1), (0, .long 0), (2, .long 1)] 7 f117_5 rfl (by decide +kernel) rfl ?_
  refine zw_lload 9 f117_7 rfl rfl ?_
  refine zw_lconst 0 10 f117_9 rfl (by decide +kernel) ?_
  refine zw_lcmp 1 11 f117_10 rfl (by decide +kernel) ?_
  refine zw_if_ne_t 18 f117_11 (by decide +kernel) (by decide +kernel) ?_
  refine zw_lload_n 19 f117_18 rfl rfl ?_
  refine zw_lload 21 f117_19 rfl rfl ?_
  refine zw_ldiv 1 22 f117_21 rfl (by decide +kernel) (by decide +kernel) ?_
  refine zw_lreturn f117_22 r117 u117 ⟨_, rfl, ?_⟩
  refine zw_lreturn f118_18 r118 u118 ⟨_, rfl, ?_⟩
  refine zw_lreturn f98_84 r98 u98 ?_
  exact ⟨rfl, by repeat (first | exact zMF_0 | refine zMF_set (by decide) ?_)⟩
set_option maxRecDepth 100000 in
set_option maxHeartbeats 0 in
theorem x_sum_k5 (ro : UInt32 → Nat × (Nat → Int32)) : zWp ro 98 0 [(0, .ref 0), (1, .int 5)] [] hF 0 0 (fun r h1 => r = some (.long 0) ∧ zMF h1) := by
  refine zw_aload_n 1 f98_0 rfl rfl ?_
  refine zw_getfield 4 f98_1 rfl g98_21_11 rfl rfl ?_
  refine zw_getfield 7 f98_4 rfl g98_134_10 rfl rfl ?_
  refine zw_astore_n [(2, .ref 12), (0, .ref 0), (1, .int 5)] 8 f98_7 rfl (by decide +kernel) rfl ?_
  refine zw_iload_n 9 f98_8 rfl rfl ?_
  refine zw_table_i (off := 76) 85 f98_9 (by decide +kernel) (by decide +kernel) (by decide +kernel) ?_
  refine zw_aload_n 86 f98_85 rfl rfl ?_
  refine zw_getfield 89 f98_86 rfl g98_21_11 rfl rfl ?_
  refine zw_virtual_l 92 0 0 [.ref 11] [(0, .ref 11)] f98_89 rfl n98_266 k98_266_10 rfl rfl (by decide +kernel) (Nat.le_of_ble_eq_true rfl) rfl rfl (by decide +kernel) (by decide +kernel) rfl (Nat.le_of_ble_eq_true rfl) rfl ?_
  refine zw_lconst 0 1 f65_0 rfl (by decide +kernel) ?_
  refine zw_lstore_n [(1, .long 0), (0, .ref 11)] 2 f65_1 rfl (by decide +kernel) rfl ?_
  refine zw_iconst 0 3 f65_2 rfl (by decide +kernel) ?_
  refine zw_istore_n [(3, .int 0), (1, .long 0), (0, .ref 11)] 4 f65_3 rfl (by decide +kernel) rfl ?_
  refine zw_iload_n 5 f65_4 rfl rfl ?_
  refine zw_aload_n 6 f65_5 rfl rfl ?_
  refine zw_getfield 9 f65_6 rfl g65_37_10 rfl rfl ?_
  refine zw_getfield 12 f65_9 rfl g65_80_4 rfl rfl ?_
  refine zw_ic_ge_t 33 f65_12 (by decide +kernel) (by decide +kernel) ?_
  refine zw_lload_n 34 f65_33 rfl rfl ?_
  refine zw_lreturn f65_34 r65 u65 ⟨_, rfl, ?_⟩
  refine zw_aload_n 93 f98_92 rfl rfl ?_
  refine zw_getfield 96 f98_93 rfl g98_151_9 rfl rfl ?_
  refine zw_iload_n 97 f98_96 rfl rfl ?_
  refine zw_iconst 5 98 f98_97 rfl (by decide +kernel) ?_
  refine zw_isub 0 99 f98_98 rfl (by decide +kernel) ?_
  refine zw_static_l 102 0 0 [.long 0, .long 1, .int 0] [] [(0, .long 0), (2, .long 1), (4, .int 0)] f98_99 rfl k98_210_99 rfl (by decide +kernel) (Nat.le_of_ble_eq_true rfl) (Nat.le_of_ble_eq_true rfl) rfl rfl (by decide +kernel) (by decide +kernel) rfl (Nat.le_of_ble_eq_true rfl) rfl ?_
  refine zw_iload 2 f118_0 rfl rfl ?_
  refine zw_if_ne_f 5 13 f118_2 (by decide +kernel) rfl (by decide +kernel) ?_
  refine zw_lload_n 6 f118_5 rfl rfl ?_
  refine zw_lload_n 7 f118_6 rfl rfl ?_
  refine zw_static_l 10 0 0 [.long 0, .long 1] [] [(0, .long 0), (2, .long 1)] f118_7 rfl k118_194_99 rfl (by decide +kernel) (Nat.le_of_ble_eq_true rfl) (Nat.le_of_ble_eq_true rfl) rfl rfl (by decide +kernel) (by decide +kernel) rfl (Nat.le_of_ble_eq_true rfl) rfl ?_
  refine zw_lload_n 1 f116_0 rfl rfl ?_
  refine zw_lload_n 2 f116_1 rfl rfl ?_
  refine zw_static_l 5 0 0 [.long 0, .long 1] [] [(0, .long 0), (2, .long 1)] f116_2 rfl k116_336_99 rfl (by decide +kernel) (Nat.le_of_ble_eq_true rfl) (Nat.le_of_ble_eq_true rfl) rfl rfl (by decide +kernel) (by decide +kernel) rfl (Nat.le_of_ble_eq_true rfl) rfl ?_
  refine zw_lload_n 1 f115_0 rfl rfl ?_
  refine zw_lstore [(4, .long 0), (0, .long 0), (2, .long 1)] 3 f115_1 rfl (by decide +kernel) rfl ?_
  refine zw_lload_n 4 f115_3 rfl rfl ?_
  refine zw_lstore [(6, .long 1), (4, .long 0), (0, .long 0), (2, .long 1)] 6 f115_4 rfl (by decide +kernel) rfl ?_
  refine zw_iconst 0 7 f115_6 rfl (by decide +kernel) ?_
  refine zw_istore [(8, .int 0), (6, .long 1), (4, .long 0), (0, .long 0), (2, .long 1)] 9 f115_7 rfl (by decide +kernel) rfl ?_
  refine zw_iload 11 f115_9 rfl rfl ?_
  refine zw_sipush 200 14 f115_11 rfl (by decide +kernel) ?_
  refine zw_ic_ge_f 17 45 f115_14 (by decide +kernel) rfl (by decide +kernel) ?_
  refine zw_lload 19 f115_17 rfl rfl ?_
  refine zw_lconst 0 20 f115_19 rfl (by decide +kernel) ?_
  refine zw_lcmp 1 21 f115_20 rfl (by decide +kernel) ?_
  refine zw_if_eq_f 24 45 f115_21 (by decide +kernel) rfl (by decide +kernel) ?_
  refine zw_lload 26 f115_24 rfl rfl ?_
  refine zw_lload 28 f115_26 rfl rfl ?_
  refine zw_lrem 0 29 f115_28 rfl (by decide +kernel) (by decide +kernel) ?_
  refine zw_lstore [(9, .long 0), (8, .int 0), (6, .long 1), (4, .long 0), (0, .long 0), (2, .long 1)] 31 f115_29 rfl (by decide +kernel) rfl ?_
  refine zw_lload 33 f115_31 rfl rfl ?_
  refine zw_lstore [(4, .long 1), (9, .long 0), (8, .int 0), (6, .long 1), (0, .long 0), (2, .long 1)] 35 f115_33 rfl (by decide +kernel) rfl ?_
  refine zw_lload 37 f115_35 rfl rfl ?_
  refine zw_lstore [(6, .long 0), (4, .long 1), (9, .long 0), (8, .int 0), (0, .long 0), (2, .long 1)] 39 f115_37 rfl (by decide +kernel) rfl ?_
  refine zw_iinc 1 [(8, .int 1), (6, .long 0), (4, .long 1), (9, .long 0), (0, .long 0), (2, .long 1)] 42 f115_39 rfl rfl (by decide +kernel) (by decide +kernel) rfl ?_
  refine zw_goto 9 f115_42 (by decide +kernel) ?_
  refine zw_iload 11 f115_9 rfl rfl ?_
  refine zw_sipush 200 14 f115_11 rfl (by decide +kernel) ?_
  refine zw_ic_ge_f 17 45 f115_14 (by decide +kernel) rfl (by decide +kernel) ?_
  refine zw_lload 19 f115_17 rfl rfl ?_
  refine zw_lconst 0 20 f115_19 rfl (by decide +kernel) ?_
  refine zw_lcmp 0 21 f115_20 rfl (by decide +kernel) ?_
  refine zw_if_eq_t 45 f115_21 (by decide +kernel) (by decide +kernel) ?_
  refine zw_lload 47 f115_45 rfl rfl ?_
  refine zw_lconst 0 48 f115_47 rfl (by decide +kernel) ?_
  refine zw_lcmp 1 49 f115_48 rfl (by decide +kernel) ?_
  refine zw_if_ne_t 56 f115_49 (by decide +kernel) (by decide +kernel) ?_
  refine zw_lload 58 f115_56 rfl rfl ?_
  refine zw_lreturn f115_58 r115 u115 ⟨_, rfl, ?_⟩
  refine zw_lstore [(4, .long 1), (0, .long 0), (2, .long 1)] 7 f116_5 rfl (by decide +kernel) rfl ?_
  refine zw_lload 9 f116_7 rfl rfl ?_
  refine zw_lconst 0 10 f116_9 rfl (by decide +kernel) ?_
  refine zw_lcmp 1 11 f116_10 rfl (by decide +kernel) ?_
  refine zw_if_ne_t 18 f116_11 (by decide +kernel) (by decide +kernel) ?_
  refine zw_lload_n 19 f116_18 rfl rfl ?_
  refine zw_lload 21 f116_19 rfl rfl ?_
  refine zw_ldiv 0 22 f116_21 rfl (by decide +kernel) (by decide +kernel) ?_
  refine zw_lreturn f116_22 r116 u116 ⟨_, rfl, ?_⟩
  refine zw_goto 18 f118_10 (by decide +kernel) ?_
  refine zw_lreturn f118_18 r118 u118 ⟨_, rfl, ?_⟩
  refine zw_lreturn f98_102 r98 u98 ?_
  exact ⟨rfl, by repeat (first | exact zMF_0 | refine zMF_set (by decide) ?_)⟩
set_option maxRecDepth 100000 in
set_option maxHeartbeats 0 in
theorem x_sum_k6 (ro : UInt32 → Nat × (Nat → Int32)) : zWp ro 98 0 [(0, .ref 0), (1, .int 6)] [] hF 0 0 (fun r h1 => r = some (.long 1) ∧ zMF h1) := by
  refine zw_aload_n 1 f98_0 rfl rfl ?_
  refine zw_getfield 4 f98_1 rfl g98_21_11 rfl rfl ?_
  refine zw_getfield 7 f98_4 rfl g98_134_10 rfl rfl ?_
  refine zw_astore_n [(2, .ref 12), (0, .ref 0), (1, .int 6)] 8 f98_7 rfl (by decide +kernel) rfl ?_
  refine zw_iload_n 9 f98_8 rfl rfl ?_
  refine zw_table_i (off := 76) 85 f98_9 (by decide +kernel) (by decide +kernel) (by decide +kernel) ?_
  refine zw_aload_n 86 f98_85 rfl rfl ?_
  refine zw_getfield 89 f98_86 rfl g98_21_11 rfl rfl ?_
  refine zw_virtual_l 92 0 0 [.ref 11] [(0, .ref 11)] f98_89 rfl n98_266 k98_266_10 rfl rfl (by decide +kernel) (Nat.le_of_ble_eq_true rfl) rfl rfl (by decide +kernel) (by decide +kernel) rfl (Nat.le_of_ble_eq_true rfl) rfl ?_
  refine zw_lconst 0 1 f65_0 rfl (by decide +kernel) ?_
  refine zw_lstore_n [(1, .long 0), (0, .ref 11)] 2 f65_1 rfl (by decide +kernel) rfl ?_
  refine zw_iconst 0 3 f65_2 rfl (by decide +kernel) ?_
  refine zw_istore_n [(3, .int 0), (1, .long 0), (0, .ref 11)] 4 f65_3 rfl (by decide +kernel) rfl ?_
  refine zw_iload_n 5 f65_4 rfl rfl ?_
  refine zw_aload_n 6 f65_5 rfl rfl ?_
  refine zw_getfield 9 f65_6 rfl g65_37_10 rfl rfl ?_
  refine zw_getfield 12 f65_9 rfl g65_80_4 rfl rfl ?_
  refine zw_ic_ge_t 33 f65_12 (by decide +kernel) (by decide +kernel) ?_
  refine zw_lload_n 34 f65_33 rfl rfl ?_
  refine zw_lreturn f65_34 r65 u65 ⟨_, rfl, ?_⟩
  refine zw_aload_n 93 f98_92 rfl rfl ?_
  refine zw_getfield 96 f98_93 rfl g98_151_9 rfl rfl ?_
  refine zw_iload_n 97 f98_96 rfl rfl ?_
  refine zw_iconst 5 98 f98_97 rfl (by decide +kernel) ?_
  refine zw_isub 1 99 f98_98 rfl (by decide +kernel) ?_
  refine zw_static_l 102 0 0 [.long 0, .long 1, .int 1] [] [(0, .long 0), (2, .long 1), (4, .int 1)] f98_99 rfl k98_210_99 rfl (by decide +kernel) (Nat.le_of_ble_eq_true rfl) (Nat.le_of_ble_eq_true rfl) rfl rfl (by decide +kernel) (by decide +kernel) rfl (Nat.le_of_ble_eq_true rfl) rfl ?_
  refine zw_iload 2 f118_0 rfl rfl ?_
  refine zw_if_ne_t 13 f118_2 (by decide +kernel) (by decide +kernel) ?_
  refine zw_lload_n 14 f118_13 rfl rfl ?_
  refine zw_lload_n 15 f118_14 rfl rfl ?_
  refine zw_static_l 18 0 0 [.long 0, .long 1] [] [(0, .long 0), (2, .long 1)] f118_15 rfl k118_198_99 rfl (by decide +kernel) (Nat.le_of_ble_eq_true rfl) (Nat.le_of_ble_eq_true rfl) rfl rfl (by decide +kernel) (by decide +kernel) rfl (Nat.le_of_ble_eq_true rfl) rfl ?_
  refine zw_lload_n 1 f117_0 rfl rfl ?_
  refine zw_lload_n 2 f117_1 rfl rfl ?_
  refine zw_static_l 5 0 0 [.long 0, .long 1] [] [(0, .long 0), (2, .long 1)] f117_2 rfl k117_336_99 rfl (by decide +kernel) (Nat.le_of_ble_eq_true rfl) (Nat.le_of_ble_eq_true rfl) rfl rfl (by decide +kernel) (by decide +kernel) rfl (Nat.le_of_ble_eq_true rfl) rfl ?_
  refine zw_lload_n 1 f115_0 rfl rfl ?_
  refine zw_lstore [(4, .long 0), (0, .long 0), (2, .long 1)] 3 f115_1 rfl (by decide +kernel) rfl ?_
  refine zw_lload_n 4 f115_3 rfl rfl ?_
  refine zw_lstore [(6, .long 1), (4, .long 0), (0, .long 0), (2, .long 1)] 6 f115_4 rfl (by decide +kernel) rfl ?_
  refine zw_iconst 0 7 f115_6 rfl (by decide +kernel) ?_
  refine zw_istore [(8, .int 0), (6, .long 1), (4, .long 0), (0, .long 0), (2, .long 1)] 9 f115_7 rfl (by decide +kernel) rfl ?_
  refine zw_iload 11 f115_9 rfl rfl ?_
  refine zw_sipush 200 14 f115_11 rfl (by decide +kernel) ?_
  refine zw_ic_ge_f 17 45 f115_14 (by decide +kernel) rfl (by decide +kernel) ?_
  refine zw_lload 19 f115_17 rfl rfl ?_
  refine zw_lconst 0 20 f115_19 rfl (by decide +kernel) ?_
  refine zw_lcmp 1 21 f115_20 rfl (by decide +kernel) ?_
  refine zw_if_eq_f 24 45 f115_21 (by decide +kernel) rfl (by decide +kernel) ?_
  refine zw_lload 26 f115_24 rfl rfl ?_
  refine zw_lload 28 f115_26 rfl rfl ?_
  refine zw_lrem 0 29 f115_28 rfl (by decide +kernel) (by decide +kernel) ?_
  refine zw_lstore [(9, .long 0), (8, .int 0), (6, .long 1), (4, .long 0), (0, .long 0), (2, .long 1)] 31 f115_29 rfl (by decide +kernel) rfl ?_
  refine zw_lload 33 f115_31 rfl rfl ?_
  refine zw_lstore [(4, .long 1), (9, .long 0), (8, .int 0), (6, .long 1), (0, .long 0), (2, .long 1)] 35 f115_33 rfl (by decide +kernel) rfl ?_
  refine zw_lload 37 f115_35 rfl rfl ?_
  refine zw_lstore [(6, .long 0), (4, .long 1), (9, .long 0), (8, .int 0), (0, .long 0), (2, .long 1)] 39 f115_37 rfl (by decide +kernel) rfl ?_
  refine zw_iinc 1 [(8, .int 1), (6, .long 0), (4, .long 1), (9, .long 0), (0, .long 0), (2, .long 1)] 42 f115_39 rfl rfl (by decide +kernel) (by decide +kernel) rfl ?_
  refine zw_goto 9 f115_42 (by decide +kernel) ?_
  refine zw_iload 11 f115_9 rfl rfl ?_
  refine zw_sipush 200 14 f115_11 rfl (by decide +kernel) ?_
  refine zw_ic_ge_f 17 45 f115_14 (by decide +kernel) rfl (by decide +kernel) ?_
  refine zw_lload 19 f115_17 rfl rfl ?_
  refine zw_lconst 0 20 f115_19 rfl (by decide +kernel) ?_
  refine zw_lcmp 0 21 f115_20 rfl (by decide +kernel) ?_
  refine zw_if_eq_t 45 f115_21 (by decide +kernel) (by decide +kernel) ?_
  refine zw_lload 47 f115_45 rfl rfl ?_
  refine zw_lconst 0 48 f115_47 rfl (by decide +kernel) ?_
  refine zw_lcmp 1 49 f115_48 rfl (by decide +kernel) ?_
  refine zw_if_ne_t 56 f115_49 (by decide +kernel) (by decide +kernel) ?_
  refine zw_lload 58 f115_56 rfl rfl ?_
  refine zw_lreturn f115_58 r115 u115 ⟨_, rfl, ?_⟩
  refine zw_lstore [(4, .long 1), (0, .long 0), (2, .long 1)] 7 f117_5 rfl (by decide +kernel) rfl ?_
  refine zw_lload 9 f117_7 rfl rfl ?_
  refine zw_lconst 0 10 f117_9 rfl (by decide +kernel) ?_
  refine zw_lcmp 1 11 f117_10 rfl (by decide +kernel) ?_
  refine zw_if_ne_t 18 f117_11 (by decide +kernel) (by decide +kernel) ?_
  refine zw_lload_n 19 f117_18 rfl rfl ?_
  refine zw_lload 21 f117_19 rfl rfl ?_
  refine zw_ldiv 1 22 f117_21 rfl (by decide +kernel) (by decide +kernel) ?_
  refine zw_lreturn f117_22 r117 u117 ⟨_, rfl, ?_⟩
  refine zw_lreturn f118_18 r118 u118 ⟨_, rfl, ?_⟩
  refine zw_lreturn f98_102 r98 u98 ?_
  exact ⟨rfl, by repeat (first | exact zMF_0 | refine zMF_set (by decide) ?_)⟩
set_option maxRecDepth 100000 in
set_option maxHeartbeats 0 in
theorem x_sum_o (ro : UInt32 → Nat × (Nat → Int32)) (a : Int32) (h1 : a.toInt < 0 ∨ (6 : Int) < a.toInt) : zWp ro 98 0 [(0, .ref 0), (1, .int a)] [] hF 0 0 (fun r h1 => r = some (.long (-1)) ∧ zMF h1) := by
  refine zw_aload_n 1 f98_0 rfl rfl ?_
  refine zw_getfield 4 f98_1 rfl g98_21_11 rfl rfl ?_
  refine zw_getfield 7 f98_4 rfl g98_134_10 rfl rfl ?_
  refine zw_astore_n [(2, .ref 12), (0, .ref 0), (1, .int a)] 8 f98_7 rfl (by decide +kernel) rfl ?_
  refine zw_iload_n 9 f98_8 rfl rfl ?_
  refine zw_table_o 103 f98_9 h1 (by decide +kernel) ?_
  refine zw_ldc2_w (-1) 106 f98_103 rfl (by decide +kernel) ?_
  refine zw_lreturn f98_106 r98 u98 ?_
  exact ⟨rfl, by repeat (first | exact zMF_0 | refine zMF_set (by decide) ?_)⟩
set_option maxRecDepth 100000 in
set_option maxHeartbeats 0 in
theorem x_round_k0 (ro : UInt32 → Nat × (Nat → Int32)) : zWp ro 99 0 [(0, .ref 0), (1, .int 0)] [] hF 0 0 (fun r h1 => r = some (.int 0) ∧ zMF h1) := by
  refine zw_iload_n 1 f99_0 rfl rfl ?_
  refine zw_iconst 0 2 f99_1 rfl (by decide +kernel) ?_
  refine zw_iconst 4 3 f99_2 rfl (by decide +kernel) ?_
  refine zw_static_i 6 0 0 [.int 0, .int 0, .int 4] [] [(0, .int 0), (1, .int 0), (2, .int 4)] f99_3 rfl k99_74_99 rfl (by decide +kernel) (Nat.le_of_ble_eq_true rfl) (Nat.le_of_ble_eq_true rfl) rfl rfl (by decide +kernel) (by decide +kernel) rfl (Nat.le_of_ble_eq_true rfl) rfl ?_
  refine zw_iload_n 1 f112_0 rfl rfl ?_
  refine zw_iload_n 2 f112_1 rfl rfl ?_
  refine zw_ic_lt_f 5 14 f112_2 (by decide +kernel) rfl (by decide +kernel) ?_
  refine zw_iload_n 6 f112_5 rfl rfl ?_
  refine zw_iload_n 7 f112_6 rfl rfl ?_
  refine zw_ic_gt_f 10 14 f112_7 (by decide +kernel) rfl (by decide +kernel) ?_
  refine zw_iconst 1 11 f112_10 rfl (by decide +kernel) ?_
  refine zw_goto 15 f112_11 (by decide +kernel) ?_
  refine zw_zreturn f112_15 r112 u112 (by decide +kernel) ⟨_, rfl, ?_⟩
  refine zw_if_ne_t 11 f99_6 (by decide +kernel) (by decide +kernel) ?_
  refine zw_aload_n 12 f99_11 rfl rfl ?_
  refine zw_getfield 15 f99_12 rfl g99_25_11 rfl rfl ?_
  refine zw_getfield 18 f99_15 rfl g99_134_10 rfl rfl ?_
  refine zw_aload_n 19 f99_18 rfl rfl ?_
  refine zw_getfield 22 f99_19 rfl g99_21_11 rfl rfl ?_
  refine zw_getfield 25 f99_22 rfl g99_134_10 rfl rfl ?_
  refine zw_virtual_v 28 0 0 [.ref 23, .ref 12] [(0, .ref 23), (1, .ref 12)] f99_25 rfl n99_269 k99_269_9 rfl rfl (by decide +kernel) (Nat.le_of_ble_eq_true rfl) rfl rfl (by decide +kernel) (by decide +kernel) rfl (Nat.le_of_ble_eq_true rfl) rfl ?_
  refine zw_aload_n 1 f42_0 rfl rfl ?_
  refine zw_aload_n 2 f42_1 rfl rfl ?_
  refine zw_getfield 5 f42_2 rfl g42_9_9 rfl rfl ?_
  refine zw_putfieldS 8 f42_5 rfl g42_9_9 rfl rfl rfl (by decide +kernel) ?_
  refine zw_aload_n 9 f42_8 rfl rfl ?_
  refine zw_aload_n 10 f42_9 rfl rfl ?_
  refine zw_getfield 13 f42_10 rfl g42_26_9 rfl rfl ?_
  refine zw_putfieldS 16 f42_13 rfl g42_26_9 rfl rfl rfl (by decide +kernel) ?_
  refine zw_aload_n 17 f42_16 rfl rfl ?_
  refine zw_aload_n 18 f42_17 rfl rfl ?_
  refine zw_getfield 21 f42_18 rfl g42_29_9 rfl rfl ?_
  refine zw_putfieldS 24 f42_21 rfl g42_29_9 rfl rfl rfl (by decide +kernel) ?_
  refine zw_aload_n 25 f42_24 rfl rfl ?_
  refine zw_aload_n 26 f42_25 rfl rfl ?_
  refine zw_getfield 29 f42_26 rfl g42_32_9 rfl rfl ?_
  refine zw_putfieldS 32 f42_29 rfl g42_32_9 rfl rfl rfl (by decide +kernel) ?_
  refine zw_aload_n 33 f42_32 rfl rfl ?_
  refine zw_aload_n 34 f42_33 rfl rfl ?_
  refine zw_getfield 37 f42_34 rfl g42_35_9 rfl rfl ?_
  refine zw_putfieldS 40 f42_37 rfl g42_35_9 rfl rfl rfl (by decide +kernel) ?_
  refine zw_aload_n 41 f42_40 rfl rfl ?_
  refine zw_aload_n 42 f42_41 rfl rfl ?_
  refine zw_getfield 45 f42_42 rfl g42_38_9 rfl rfl ?_
  refine zw_putfieldS 48 f42_45 rfl g42_38_9 rfl rfl rfl (by decide +kernel) ?_
  refine zw_aload_n 49 f42_48 rfl rfl ?_
  refine zw_aload_n 50 f42_49 rfl rfl ?_
  refine zw_getfield 53 f42_50 rfl g42_42_9 rfl rfl ?_
  refine zw_putfieldS 56 f42_53 rfl g42_42_9 rfl rfl rfl (by decide +kernel) ?_
  refine zw_aload_n 57 f42_56 rfl rfl ?_
  refine zw_getfield 60 f42_57 rfl g42_15_9 rfl rfl ?_
  refine zw_iconst 0 61 f42_60 rfl (by decide +kernel) ?_
  refine zw_aload_n 62 f42_61 rfl rfl ?_
  refine zw_getfield 65 f42_62 rfl g42_15_9 rfl rfl ?_
  refine zw_iconst 0 66 f42_65 rfl (by decide +kernel) ?_
  refine zw_bipush 8 68 f42_66 rfl (by decide +kernel) ?_
  refine zw_copylS 71 8 0 0 f42_68 rfl k42_45_99 rfl rfl (by decide +kernel) (by decide +kernel) (by decide +kernel) (by decide +kernel) (by decide +kernel) (by decide +kernel) (by decide +kernel) (by decide +kernel) (Nat.le_of_ble_eq_true rfl) (zcpy0 _ _ _) ?_
  refine zw_aload_n 72 f42_71 rfl rfl ?_
  refine zw_getfield 75 f42_72 rfl g42_19_9 rfl rfl ?_
  refine zw_iconst 0 76 f42_75 rfl (by decide +kernel) ?_
  refine zw_aload_n 77 f42_76 rfl rfl ?_
  refine zw_getfield 80 f42_77 rfl g42_19_9 rfl rfl ?_
  refine zw_iconst 0 81 f42_80 rfl (by decide +kernel) ?_
  refine zw_bipush 8 83 f42_81 rfl (by decide +kernel) ?_
  refine zw_copyiS 86 8 0 0 f42_83 rfl k42_45_99 rfl rfl (by decide +kernel) (by decide +kernel) (by decide +kernel) (by decide +kernel) (by decide +kernel) (by decide +kernel) (by decide +kernel) (by decide +kernel) (Nat.le_of_ble_eq_true rfl) (zcpy0 _ _ _) ?_
  refine zw_aload_n 87 f42_86 rfl rfl ?_
  refine zw_getfield 90 f42_87 rfl g42_23_9 rfl rfl ?_
  refine zw_iconst 0 91 f42_90 rfl (by decide +kernel) ?_
  refine zw_aload_n 92 f42_91 rfl rfl ?_
  refine zw_getfield 95 f42_92 rfl g42_23_9 rfl rfl ?_
  refine zw_iconst 0 96 f42_95 rfl (by decide +kernel) ?_
  refine zw_bipush 14 98 f42_96 rfl (by decide +kernel) ?_
  refine zw_copyiS 101 14 0 0 f42_98 rfl k42_45_99 rfl rfl (by decide +kernel) (by decide +kernel) (by decide +kernel) (by decide +kernel) (by decide +kernel) (by decide +kernel) (by decide +kernel) (by decide +kernel) (Nat.le_of_ble_eq_true rfl) (zcpy0 _ _ _) ?_
  refine zw_vreturn f42_101 r42 u42 ⟨rfl, ?_⟩
  refine zw_aload_n 29 f99_28 rfl rfl ?_
  refine zw_getfield 32 f99_29 rfl g99_38_11 rfl rfl ?_
  refine zw_aload_n 33 f99_32 rfl rfl ?_
  refine zw_getfield 36 f99_33 rfl g99_25_11 rfl rfl ?_
  refine zw_virtual_i 39 0 0 [.ref 38, .ref 22] [(0, .ref 38), (1, .ref 22)] f99_36 rfl n99_273 k99_273_5 rfl rfl (by decide +kernel) (Nat.le_of_ble_eq_true rfl) rfl rfl (by decide +kernel) (by decide +kernel) rfl (Nat.le_of_ble_eq_true rfl) rfl ?_
  refine zw_aload_n 1 f25_0 rfl rfl ?_
  refine zw_iconst 0 2 f25_1 rfl (by decide +kernel) ?_
  refine zw_aload_n 3 f25_2 rfl rfl ?_
  refine zw_getfield 6 f25_3 rfl g25_28_10 rfl rfl ?_
  refine zw_virtual_v 9 0 0 [.ref 38, .int 0, .ref 23] [(0, .ref 38), (1, .int 0), (2, .ref 23)] f25_6 rfl n25_34 k25_34_5 rfl rfl (by decide +kernel) (Nat.le_of_ble_eq_true rfl) rfl rfl (by decide +kernel) (by decide +kernel) rfl (Nat.le_of_ble_eq_true rfl) rfl ?_
  refine zw_iload_n 1 f27_0 rfl rfl ?_
  refine zw_if_lt_f 4 11 f27_1 (by decide +kernel) rfl (by decide +kernel) ?_
  refine zw_iload_n 5 f27_4 rfl rfl ?_
  refine zw_sipush 151 8 f27_5 rfl (by decide +kernel) ?_
  refine zw_ic_lt_t 12 f27_8 (by decide +kernel) (by decide +kernel) ?_
  refine zw_aload_n 13 f27_12 rfl rfl ?_
  refine zw_getfield 16 f27_13 rfl g27_11_5 rfl rfl ?_
  refine zw_iload_n 17 f27_16 rfl rfl ?_
  refine zw_aload_n 18 f27_17 rfl rfl ?_
  refine zw_getfield 21 f27_18 rfl g27_75_9 rfl rfl ?_
  refine zw_lastore 0 22 f27_21 rfl rfl (by decide +kernel) (by decide +kernel) (by decide +kernel) ?_
  refine zw_aload_n 23 f27_22 rfl rfl ?_
  refine zw_getfield 26 f27_23 rfl g27_15_5 rfl rfl ?_
  refine zw_iload_n 27 f27_26 rfl rfl ?_
  refine zw_aload_n 28 f27_27 rfl rfl ?_
  refine zw_getfield 31 f27_28 rfl g27_80_9 rfl rfl ?_
  refine zw_lastoreS 0 32 f27_31 rfl rfl (by decide +kernel) (by decide +kernel) (by decide +kernel) rfl ?_
  refine zw_aload_n 33 f27_32 rfl rfl ?_
  refine zw_getfield 36 f27_33 rfl g27_18_5 rfl rfl ?_
  refine zw_iload_n 37 f27_36 rfl rfl ?_
  refine zw_aload_n 38 f27_37 rfl rfl ?_
  refine zw_getfield 41 f27_38 rfl g27_83_9 rfl rfl ?_
  refine zw_iastoreS 0 42 f27_41 rfl rfl (by decide +kernel) (by decide +kernel) (by decide +kernel) rfl ?_
  refine zw_aload_n 43 f27_42 rfl rfl ?_
  refine zw_getfield 46 f27_43 rfl g27_22_5 rfl rfl ?_
  refine zw_iload_n 47 f27_46 rfl rfl ?_
  refine zw_aload_n 48 f27_47 rfl rfl ?_
  refine zw_getfield 51 f27_48 rfl g27_86_9 rfl rfl ?_
  refine zw_iastoreS 0 52 f27_51 rfl rfl (by decide +kernel) (by decide +kernel) (by decide +kernel) rfl ?_
  refine zw_aload_n 53 f27_52 rfl rfl ?_
  refine zw_getfield 56 f27_53 rfl g27_89_9 rfl rfl ?_
  refine zw_iconst 0 57 f27_56 rfl (by decide +kernel) ?_
  refine zw_aload_n 58 f27_57 rfl rfl ?_
  refine zw_getfield 61 f27_58 rfl g27_25_5 rfl rfl ?_
  refine zw_iload_n 62 f27_61 rfl rfl ?_
  refine zw_bipush 8 64 f27_62 rfl (by decide +kernel) ?_
  refine zw_imul 0 65 f27_64 rfl (by decide +kernel) ?_
  refine zw_bipush 8 67 f27_65 rfl (by decide +kernel) ?_
  refine zw_copylS 70 8 0 0 f27_67 rfl k27_90_99 rfl rfl (by decide +kernel) (by decide +kernel) (by decide +kernel) (by decide +kernel) (by decide +kernel) (by decide +kernel) (by decide +kernel) (by decide +kernel) (Nat.le_of_ble_eq_true rfl) (zcpy0 _ _ _) ?_
  refine zw_vreturn f27_70 r27 u27 ⟨rfl, ?_⟩
  refine zw_iconst 1 10 f25_9 rfl (by decide +kernel) ?_
  refine zw_istore_n [(2, .int 1), (0, .ref 38), (1, .ref 22)] 11 f25_10 rfl (by decide +kernel) rfl ?_
  refine zw_iload_n 12 f25_11 rfl rfl ?_
  refine zw_sipush 151 15 f25_12 rfl (by decide +kernel) ?_
  refine zw_ic_ge_f 18 82 f25_15 (by decide +kernel) rfl (by decide +kernel) ?_
  refine zw_aload_n 19 f25_18 rfl rfl ?_
  refine zw_virtual_v 22 0 0 [.ref 22] [(0, .ref 22)] f25_19 rfl n25_38 k25_38_10 rfl rfl (by decide +kernel) (Nat.le_of_ble_eq_true rfl) rfl rfl (by decide +kernel) (by decide +kernel) rfl (Nat.le_of_ble_eq_true rfl) rfl ?_
  refine zw_aload_n 1 f53_0 rfl rfl ?_
  refine zw_virtual_v 4 0 0 [.ref 22] [(0, .ref 22)] f53_1 rfl n53_113 k53_113_10 rfl rfl (by decide +kernel) (Nat.le_of_ble_eq_true rfl) rfl rfl (by decide +kernel) (by decide +kernel) rfl (Nat.le_of_ble_eq_true rfl) rfl ?_
  refine zw_aload_n 1 f49_0 rfl rfl ?_
  refine zw_iconst 0 2 f49_1 rfl (by decide +kernel) ?_
  refine zw_putfieldS 5 f49_2 rfl g49_54_10 rfl rfl rfl (by decide +kernel) ?_
  refine zw_aload_n 6 f49_5 rfl rfl ?_
  refine zw_iconst 0 7 f49_6 rfl (by decide +kernel) ?_
  refine zw_putfieldS 10 f49_7 rfl g49_58_10 rfl rfl rfl (by decide +kernel) ?_
  refine zw_iconst 0 11 f49_10 rfl (by decide +kernel) ?_
  refine zw_istore_n [(1, .int 0), (0, .ref 22)] 12 f49_11 rfl (by decide +kernel) rfl ?_
  refine zw_iload_n 13 f49_12 rfl rfl ?_
  refine zw_bipush 8 15 f49_13 rfl (by decide +kernel) ?_
  refine zw_ic_ge_f 18 31 f49_15 (by decide +kernel) rfl (by decide +kernel) ?_
  refine zw_aload_n 19 f49_18 rfl rfl ?_
  refine zw_getfield 22 f49_19 rfl g49_18_10 rfl rfl ?_
  refine zw_iload_n 23 f49_22 rfl rfl ?_
  refine zw_iconst 0 24 f49_23 rfl (by decide +kernel) ?_
  refine zw_iastoreS 0 25 f49_24 rfl rfl (by decide +kernel) (by decide +kernel) (by decide +kernel) rfl ?_
  refine zw_iinc 1 [(1, .int 1), (0, .ref 22)] 28 f49_25 rfl rfl (by decide +kernel) (by decide +kernel) rfl ?_
  refine zw_goto 12 f49_28 (by decide +kernel) ?_
  refine zw_iload_n 13 f49_12 rfl rfl ?_
  refine zw_bipush 8 15 f49_13 rfl (by decide +kernel) ?_
  refine zw_ic_ge_f 18 31 f49_15 (by decide +kernel) rfl (by decide +kernel) ?_
  refine zw_aload_n 19 f49_18 rfl rfl ?_
  refine zw_getfield 22 f49_19 rfl g49_18_10 rfl rfl ?_
  refine zw_iload_n 23 f49_22 rfl rfl ?_
  refine zw_iconst 0 24 f49_23 rfl (by decide +kernel) ?_
  refine zw_iastoreS 1 25 f49_24 rfl rfl (by decide +kernel) (by decide +kernel) (by decide +kernel) rfl ?_
  refine zw_iinc 2 [(1, .int 2), (0, .ref 22)] 28 f49_25 rfl rfl (by decide +kernel) (by decide +kernel) rfl ?_
  refine zw_goto 12 f49_28 (by decide +kernel) ?_
  refine zw_iload_n 13 f49_12 rfl rfl ?_
  refine zw_bipush 8 15 f49_13 rfl (by decide +kernel) ?_
  refine zw_ic_ge_f 18 31 f49_15 (by decide +kernel) rfl (by decide +kernel) ?_
  refine zw_aload_n 19 f49_18 rfl rfl ?_
  refine zw_getfield 22 f49_19 rfl g49_18_10 rfl rfl ?_
  refine zw_iload_n 23 f49_22 rfl rfl ?_
  refine zw_iconst 0 24 f49_23 rfl (by decide +kernel) ?_
  refine zw_iastoreS 2 25 f49_24 rfl rfl (by decide +kernel) (by decide +kernel) (by decide +kernel) rfl ?_
  refine zw_iinc 3 [(1, .int 3), (0, .ref 22)] 28 f49_25 rfl rfl (by decide +kernel) (by decide +kernel) rfl ?_
  refine zw_goto 12 f49_28 (by decide +kernel) ?_
  refine zw_iload_n 13 f49_12 rfl rfl ?_
  refine zw_bipush 8 15 f49_13 rfl (by decide +kernel) ?_
  refine zw_ic_ge_f 18 31 f49_15 (by decide +kernel) rfl (by decide +kernel) ?_
  refine zw_aload_n 19 f49_18 rfl rfl ?_
  refine zw_getfield 22 f49_19 rfl g49_18_10 rfl rfl ?_
  refine zw_iload_n 23 f49_22 rfl rfl ?_
  refine zw_iconst 0 24 f49_23 rfl (by decide +kernel) ?_
  refine zw_iastoreS 3 25 f49_24 rfl rfl (by decide +kernel) (by decide +kernel) (by decide +kernel) rfl ?_
  refine zw_iinc 4 [(1, .int 4), (0, .ref 22)] 28 f49_25 rfl rfl (by decide +kernel) (by decide +kernel) rfl ?_
  refine zw_goto 12 f49_28 (by decide +kernel) ?_
  refine zw_iload_n 13 f49_12 rfl rfl ?_
  refine zw_bipush 8 15 f49_13 rfl (by decide +kernel) ?_
  refine zw_ic_ge_f 18 31 f49_15 (by decide +kernel) rfl (by decide +kernel) ?_
  refine zw_aload_n 19 f49_18 rfl rfl ?_
  refine zw_getfield 22 f49_19 rfl g49_18_10 rfl rfl ?_
  refine zw_iload_n 23 f49_22 rfl rfl ?_
  refine zw_iconst 0 24 f49_23 rfl (by decide +kernel) ?_
  refine zw_iastoreS 4 25 f49_24 rfl rfl (by decide +kernel) (by decide +kernel) (by decide +kernel) rfl ?_
  refine zw_iinc 5 [(1, .int 5), (0, .ref 22)] 28 f49_25 rfl rfl (by decide +kernel) (by decide +kernel) rfl ?_
  refine zw_goto 12 f49_28 (by decide +kernel) ?_
  refine zw_iload_n 13 f49_12 rfl rfl ?_
  refine zw_bipush 8 15 f49_13 rfl (by decide +kernel) ?_
  refine zw_ic_ge_f 18 31 f49_15 (by decide +kernel) rfl (by decide +kernel) ?_
  refine zw_aload_n 19 f49_18 rfl rfl ?_
  refine zw_getfield 22 f49_19 rfl g49_18_10 rfl rfl ?_
  refine zw_iload_n 23 f49_22 rfl rfl ?_
  refine zw_iconst 0 24 f49_23 rfl (by decide +kernel) ?_
  refine zw_iastoreS 5 25 f49_24 rfl rfl (by decide +kernel) (by decide +kernel) (by decide +kernel) rfl ?_
  refine zw_iinc 6 [(1, .int 6), (0, .ref 22)] 28 f49_25 rfl rfl (by decide +kernel) (by decide +kernel) rfl ?_
  refine zw_goto 12 f49_28 (by decide +kernel) ?_
  refine zw_iload_n 13 f49_12 rfl rfl ?_
  refine zw_bipush 8 15 f49_13 rfl (by decide +kernel) ?_
  refine zw_ic_ge_f 18 31 f49_15 (by decide +kernel) rfl (by decide +kernel) ?_
  refine zw_aload_n 19 f49_18 rfl rfl ?_
  refine zw_getfield 22 f49_19 rfl g49_18_10 rfl rfl ?_
  refine zw_iload_n 23 f49_22 rfl rfl ?_
  refine zw_iconst 0 24 f49_23 rfl (by decide +kernel) ?_
  refine zw_iastoreS 6 25 f49_24 rfl rfl (by decide +kernel) (by decide +kernel) (by decide +kernel) rfl ?_
  refine zw_iinc 7 [(1, .int 7), (0, .ref 22)] 28 f49_25 rfl rfl (by decide +kernel) (by decide +kernel) rfl ?_
  refine zw_goto 12 f49_28 (by decide +kernel) ?_
  refine zw_iload_n 13 f49_12 rfl rfl ?_
  refine zw_bipush 8 15 f49_13 rfl (by decide +kernel) ?_
  refine zw_ic_ge_f 18 31 f49_15 (by decide +kernel) rfl (by decide +kernel) ?_
  refine zw_aload_n 19 f49_18 rfl rfl ?_
  refine zw_getfield 22 f49_19 rfl g49_18_10 rfl rfl ?_
  refine zw_iload_n 23 f49_22 rfl rfl ?_
  refine zw_iconst 0 24 f49_23 rfl (by decide +kernel) ?_
  refine zw_iastoreS 7 25 f49_24 rfl rfl (by decide +kernel) (by decide +kernel) (by decide +kernel) rfl ?_
  refine zw_iinc 8 [(1, .int 8), (0, .ref 22)] 28 f49_25 rfl rfl (by decide +kernel) (by decide +kernel) rfl ?_
  refine zw_goto 12 f49_28 (by decide +kernel) ?_
  refine zw_iload_n 13 f49_12 rfl rfl ?_
  refine zw_bipush 8 15 f49_13 rfl (by decide +kernel) ?_
  refine zw_ic_ge_t 31 f49_15 (by decide +kernel) (by decide +kernel) ?_
  refine zw_iconst 0 32 f49_31 rfl (by decide +kernel) ?_
  refine zw_istore_n [(1, .int 0), (0, .ref 22)] 33 f49_32 rfl (by decide +kernel) rfl ?_
  refine zw_iload_n 34 f49_33 rfl rfl ?_
  refine zw_aload_n 35 f49_34 rfl rfl ?_
  refine zw_getfield 38 f49_35 rfl g49_37_10 rfl rfl ?_
  refine zw_getfield 41 f49_38 rfl g49_61_4 rfl rfl ?_
  refine zw_ic_ge_t 124 f49_41 (by decide +kernel) (by decide +kernel) ?_
  refine zw_iconst 0 125 f49_124 rfl (by decide +kernel) ?_
  refine zw_istore_n [(1, .int 0), (0, .ref 22)] 126 f49_125 rfl (by decide +kernel) rfl ?_
  refine zw_iload_n 127 f49_126 rfl rfl ?_
  refine zw_aload_n 128 f49_127 rfl rfl ?_
  refine zw_getfield 131 f49_128 rfl g49_37_10 rfl rfl ?_
  refine zw_getfield 134 f49_131 rfl g49_80_4 rfl rfl ?_
  refine zw_ic_ge_t 148 f49_134 (by decide +kernel) (by decide +kernel) ?_
  refine zw_vreturn f49_148 r49 u49 ⟨rfl, ?_⟩
  refine zw_aload_n 5 f53_4 rfl rfl ?_
  refine zw_lconst 0 6 f53_5 rfl (by decide +kernel) ?_
  refine zw_putfieldS 9 f53_6 rfl g53_116_10 rfl rfl rfl (by decide +kernel) ?_
  refine zw_aload_n 10 f53_9 rfl rfl ?_
  refine zw_lconst 0 11 f53_10 rfl (by decide +kernel) ?_
  refine zw_putfieldS 14 f53_11 rfl g53_119_10 rfl rfl rfl (by decide +kernel) ?_
  refine zw_iconst 0 15 f53_14 rfl (by decide +kernel) ?_
  refine zw_istore_n [(1, .int 0), (0, .ref 22)] 16 f53_15 rfl (by decide +kernel) rfl ?_
  refine zw_iload_n 17 f53_16 rfl rfl ?_
  refine zw_aload_n 18 f53_17 rfl rfl ?_
  refine zw_getfield 21 f53_18 rfl g53_37_10 rfl rfl ?_
  refine zw_getfield 24 f53_21 rfl g53_80_4 rfl rfl ?_
  refine zw_ic_ge_t 64 f53_24 (by decide +kernel) (by decide +kernel) ?_
  refine zw_vreturn f53_64 r53 u53 ⟨rfl, ?_⟩
  refine zw_aload_n 23 f25_22 rfl rfl ?_
  refine zw_virtual_i 26 0 0 [.ref 22] [(0, .ref 22)] f25_23 rfl n25_41 k25_41_10 rfl rfl (by decide +kernel) (Nat.le_of_ble_eq_true rfl) rfl rfl (by decide +kernel) (by decide +kernel) rfl (Nat.le_of_ble_eq_true rfl) rfl ?_
  refine zw_aload_n 1 f58_0 rfl rfl ?_
  refine zw_getfield 4 f58_1 rfl g58_119_10 rfl rfl ?_
  refine zw_lconst 0 5 f58_4 rfl (by decide +kernel) ?_
  refine zw_lcmp 0 6 f58_5 rfl (by decide +kernel) ?_
  refine zw_if_ne_f 9 13 f58_6 (by decide +kernel) rfl (by decide +kernel) ?_
  refine zw_iconst 1 10 f58_9 rfl (by decide +kernel) ?_
  refine zw_goto 14 f58_10 (by decide +kernel) ?_
  refine zw_zreturn f58_14 r58 u58 (by decide +kernel) ⟨_, rfl, ?_⟩
  refine zw_if_eq_f 29 31 f25_26 (by decide +kernel) rfl (by decide +kernel) ?_
  refine zw_iconst 0 30 f25_29 rfl (by decide +kernel) ?_
  refine zw_ireturn f25_30 r25 u25 ⟨_, rfl, ?_⟩
  refine zw_istore_n [(2, .int 0), (0, .ref 0), (1, .int 0)] 40 f99_39 rfl (by decide +kernel) rfl ?_
  refine zw_iload_n 41 f99_40 rfl rfl ?_
  refine zw_if_ne_f 44 46 f99_41 (by decide +kernel) rfl (by decide +kernel) ?_
  refine zw_iload_n 45 f99_44 rfl rfl ?_
  refine zw_ireturn f99_45 r99 u99 ?_
  exact ⟨rfl, by repeat (first | exact zMF_0 | refine zMF_set (by decide) ?_)⟩
set_option maxRecDepth 100000 in
set_option maxHeartbeats 0 in
theorem x_round_r (ro : UInt32 → Nat × (Nat → Int32)) (a : Int32) (h1 : ¬ a = 0) : zWp ro 99 0 [(0, .ref 0), (1, .int a)] [] hF 0 0 (fun r h1 => r = some (.int (-1)) ∧ zMF h1) := by
  refine zw_iload_n 1 f99_0 rfl rfl ?_
  refine zw_iconst 0 2 f99_1 rfl (by decide +kernel) ?_
  refine zw_iconst 4 3 f99_2 rfl (by decide +kernel) ?_
  refine zw_static_i 6 0 0 [.int a, .int 0, .int 4] [] [(0, .int a), (1, .int 0), (2, .int 4)] f99_3 rfl k99_74_99 rfl (by decide +kernel) (Nat.le_of_ble_eq_true rfl) (Nat.le_of_ble_eq_true rfl) rfl rfl (by decide +kernel) (by decide +kernel) rfl (Nat.le_of_ble_eq_true rfl) rfl ?_
  refine zw_iload_n 1 f112_0 rfl rfl ?_
  refine zw_iload_n 2 f112_1 rfl rfl ?_
  refine zw_ic_lt 5 14 f112_2 (by decide +kernel) rfl (fun hc1 => ?_) (fun hc1 => ?_)
  · refine zw_iconst 0 15 f112_14 rfl (by decide +kernel) ?_
    refine zw_zreturn f112_15 r112 u112 (by decide +kernel) ⟨_, rfl, ?_⟩
    refine zw_if_ne_f 9 11 f99_6 (by decide +kernel) rfl (by decide +kernel) ?_
    refine zw_iconst (-1) 10 f99_9 rfl (by decide +kernel) ?_
    refine zw_ireturn f99_10 r99 u99 ?_
    exact ⟨rfl, by repeat (first | exact zMF_0 | refine zMF_set (by decide) ?_)⟩
  · refine zw_iload_n 6 f112_5 rfl rfl ?_
    refine zw_iload_n 7 f112_6 rfl rfl ?_
    refine zw_ic_gt 10 14 f112_7 (by decide +kernel) rfl (fun hc2 => ?_) (fun hc2 => ?_)
    · refine zw_iconst 0 15 f112_14 rfl (by decide +kernel) ?_
      refine zw_zreturn f112_15 r112 u112 (by decide +kernel) ⟨_, rfl, ?_⟩
      refine zw_if_ne_f 9 11 f99_6 (by decide +kernel) rfl (by decide +kernel) ?_
      refine zw_iconst (-1) 10 f99_9 rfl (by decide +kernel) ?_
      refine zw_ireturn f99_10 r99 u99 ?_
      exact ⟨rfl, by repeat (first | exact zMF_0 | refine zMF_set (by decide) ?_)⟩
    · refine zw_iconst 1 11 f112_10 rfl (by decide +kernel) ?_
      refine zw_goto 15 f112_11 (by decide +kernel) ?_
      refine zw_zreturn f112_15 r112 u112 (by decide +kernel) ⟨_, rfl, ?_⟩
      refine zw_if_ne_t 11 f99_6 (by decide +kernel) (by decide +kernel) ?_
      refine zw_aload_n 12 f99_11 rfl rfl ?_
      refine zw_getfield 15 f99_12 rfl g99_25_11 rfl rfl ?_
      refine zw_getfield 18 f99_15 rfl g99_134_10 rfl rfl ?_
      refine zw_aload_n 19 f99_18 rfl rfl ?_
      refine zw_getfield 22 f99_19 rfl g99_21_11 rfl rfl ?_
      refine zw_getfield 25 f99_22 rfl g99_134_10 rfl rfl ?_
      refine zw_virtual_v 28 0 0 [.ref 23, .ref 12] [(0, .ref 23), (1, .ref 12)] f99_25 rfl n99_269 k99_269_9 rfl rfl (by decide +kernel) (Nat.le_of_ble_eq_true rfl) rfl rfl (by decide +kernel) (by decide +kernel) rfl (Nat.le_of_ble_eq_true rfl) rfl ?_
      refine zw_aload_n 1 f42_0 rfl rfl ?_
      refine zw_aload_n 2 f42_1 rfl rfl ?_
      refine zw_getfield 5 f42_2 rfl g42_9_9 rfl rfl ?_
      refine zw_putfieldS 8 f42_5 rfl g42_9_9 rfl rfl rfl (by decide +kernel) ?_
      refine zw_aload_n 9 f42_8 rfl rfl ?_
      refine zw_aload_n 10 f42_9 rfl rfl ?_
      refine zw_getfield 13 f42_10 rfl g42_26_9 rfl rfl ?_
      refine zw_putfieldS 16 f42_13 rfl g42_26_9 rfl rfl rfl (by decide +kernel) ?_
      refine zw_aload_n 17 f42_16 rfl rfl ?_
      refine zw_aload_n 18 f42_17 rfl rfl ?_
      refine zw_getfield 21 f42_18 rfl g42_29_9 rfl rfl ?_
      refine zw_putfieldS 24 f42_21 rfl g42_29_9 rfl rfl rfl (by decide +kernel) ?_
      refine zw_aload_n 25 f42_24 rfl rfl ?_
      refine zw_aload_n 26 f42_25 rfl rfl ?_
      refine zw_getfield 29 f42_26 rfl g42_32_9 rfl rfl ?_
      refine zw_putfieldS 32 f42_29 rfl g42_32_9 rfl rfl rfl (by decide +kernel) ?_
      refine zw_aload_n 33 f42_32 rfl rfl ?_
      refine zw_aload_n 34 f42_33 rfl rfl ?_
      refine zw_getfield 37 f42_34 rfl g42_35_9 rfl rfl ?_
      refine zw_putfieldS 40 f42_37 rfl g42_35_9 rfl rfl rfl (by decide +kernel) ?_
      refine zw_aload_n 41 f42_40 rfl rfl ?_
      refine zw_aload_n 42 f42_41 rfl rfl ?_
      refine zw_getfield 45 f42_42 rfl g42_38_9 rfl rfl ?_
      refine zw_putfieldS 48 f42_45 rfl g42_38_9 rfl rfl rfl (by decide +kernel) ?_
      refine zw_aload_n 49 f42_48 rfl rfl ?_
      refine zw_aload_n 50 f42_49 rfl rfl ?_
      refine zw_getfield 53 f42_50 rfl g42_42_9 rfl rfl ?_
      refine zw_putfieldS 56 f42_53 rfl g42_42_9 rfl rfl rfl (by decide +kernel) ?_
      refine zw_aload_n 57 f42_56 rfl rfl ?_
      refine zw_getfield 60 f42_57 rfl g42_15_9 rfl rfl ?_
      refine zw_iconst 0 61 f42_60 rfl (by decide +kernel) ?_
      refine zw_aload_n 62 f42_61 rfl rfl ?_
      refine zw_getfield 65 f42_62 rfl g42_15_9 rfl rfl ?_
      refine zw_iconst 0 66 f42_65 rfl (by decide +kernel) ?_
      refine zw_bipush 8 68 f42_66 rfl (by decide +kernel) ?_
      refine zw_copylS 71 8 0 0 f42_68 rfl k42_45_99 rfl rfl (by decide +kernel) (by decide +kernel) (by decide +kernel) (by decide +kernel) (by decide +kernel) (by decide +kernel) (by decide +kernel) (by decide +kernel) (Nat.le_of_ble_eq_true rfl) (zcpy0 _ _ _) ?_
      refine zw_aload_n 72 f42_71 rfl rfl ?_
      refine zw_getfield 75 f42_72 rfl g42_19_9 rfl rfl ?_
      refine zw_iconst 0 76 f42_75 rfl (by decide +kernel) ?_
      refine zw_aload_n 77 f42_76 rfl rfl ?_
      refine zw_getfield 80 f42_77 rfl g42_19_9 rfl rfl ?_
      refine zw_iconst 0 81 f42_80 rfl (by decide +kernel) ?_
      refine zw_bipush 8 83 f42_81 rfl (by decide +kernel) ?_
      refine zw_copyiS 86 8 0 0 f42_83 rfl k42_45_99 rfl rfl (by decide +kernel) (by decide +kernel) (by decide +kernel) (by decide +kernel) (by decide +kernel) (by decide +kernel) (by decide +kernel) (by decide +kernel) (Nat.le_of_ble_eq_true rfl) (zcpy0 _ _ _) ?_
      refine zw_aload_n 87 f42_86 rfl rfl ?_
      refine zw_getfield 90 f42_87 rfl g42_23_9 rfl rfl ?_
      refine zw_iconst 0 91 f42_90 rfl (by decide +kernel) ?_
      refine zw_aload_n 92 f42_91 rfl rfl ?_
      refine zw_getfield 95 f42_92 rfl g42_23_9 rfl rfl ?_
      refine zw_iconst 0 96 f42_95 rfl (by decide +kernel) ?_
      refine zw_bipush 14 98 f42_96 rfl (by decide +kernel) ?_
      refine zw_copyiS 101 14 0 0 f42_98 rfl k42_45_99 rfl rfl (by decide +kernel) (by decide +kernel) (by decide +kernel) (by decide +kernel) (by decide +kernel) (by decide +kernel) (by decide +kernel) (by decide +kernel) (Nat.le_of_ble_eq_true rfl) (zcpy0 _ _ _) ?_
      refine zw_vreturn f42_101 r42 u42 ⟨rfl, ?_⟩
      refine zw_aload_n 29 f99_28 rfl rfl ?_
      refine zw_getfield 32 f99_29 rfl g99_38_11 rfl rfl ?_
      refine zw_aload_n 33 f99_32 rfl rfl ?_
      refine zw_getfield 36 f99_33 rfl g99_25_11 rfl rfl ?_
      refine zw_virtual_i 39 0 0 [.ref 38, .ref 22] [(0, .ref 38), (1, .ref 22)] f99_36 rfl n99_273 k99_273_5 rfl rfl (by decide +kernel) (Nat.le_of_ble_eq_true rfl) rfl rfl (by decide +kernel) (by decide +kernel) rfl (Nat.le_of_ble_eq_true rfl) rfl ?_
      refine zw_aload_n 1 f25_0 rfl rfl ?_
      refine zw_iconst 0 2 f25_1 rfl (by decide +kernel) ?_
      refine zw_aload_n 3 f25_2 rfl rfl ?_
      refine zw_getfield 6 f25_3 rfl g25_28_10 rfl rfl ?_
      refine zw_virtual_v 9 0 0 [.ref 38, .int 0, .ref 23] [(0, .ref 38), (1, .int 0), (2, .ref 23)] f25_6 rfl n25_34 k25_34_5 rfl rfl (by decide +kernel) (Nat.le_of_ble_eq_true rfl) rfl rfl (by decide +kernel) (by decide +kernel) rfl (Nat.le_of_ble_eq_true rfl) rfl ?_
      refine zw_iload_n 1 f27_0 rfl rfl ?_
      refine zw_if_lt_f 4 11 f27_1 (by decide +kernel) rfl (by decide +kernel) ?_
      refine zw_iload_n 5 f27_4 rfl rfl ?_
      refine zw_sipush 151 8 f27_5 rfl (by decide +kernel) ?_
      refine zw_ic_lt_t 12 f27_8 (by decide +kernel) (by decide +kernel) ?_
      refine zw_aload_n 13 f27_12 rfl rfl ?_
      refine zw_getfield 16 f27_13 rfl g27_11_5 rfl rfl ?_
      refine zw_iload_n 17 f27_16 rfl rfl ?_
      refine zw_aload_n 18 f27_17 rfl rfl ?_
      refine zw_getfield 21 f27_18 rfl g27_75_9 rfl rfl ?_
      refine zw_lastore 0 22 f27_21 rfl rfl (by decide +kernel) (by decide +kernel) (by decide +kernel) ?_
      refine zw_aload_n 23 f27_22 rfl rfl ?_
      refine zw_getfield 26 f27_23 rfl g27_15_5 rfl rfl ?_
      refine zw_iload_n 27 f27_26 rfl rfl ?_
      refine zw_aload_n 28 f27_27 rfl rfl ?_
      refine zw_getfield 31 f27_28 rfl g27_80_9 rfl rfl ?_
      refine zw_lastoreS 0 32 f27_31 rfl rfl (by decide +kernel) (by decide +kernel) (by decide +kernel) rfl ?_
      refine zw_aload_n 33 f27_32 rfl rfl ?_
      refine zw_getfield 36 f27_33 rfl g27_18_5 rfl rfl ?_
      refine zw_iload_n 37 f27_36 rfl rfl ?_
      refine zw_aload_n 38 f27_37 rfl rfl ?_
      refine zw_getfield 41 f27_38 rfl g27_83_9 rfl rfl ?_
      refine zw_iastoreS 0 42 f27_41 rfl rfl (by decide +kernel) (by decide +kernel) (by decide +kernel) rfl ?_
      refine zw_aload_n 43 f27_42 rfl rfl ?_
      refine zw_getfield 46 f27_43 rfl g27_22_5 rfl rfl ?_
      refine zw_iload_n 47 f27_46 rfl rfl ?_
      refine zw_aload_n 48 f27_47 rfl rfl ?_
      refine zw_getfield 51 f27_48 rfl g27_86_9 rfl rfl ?_
      refine zw_iastoreS 0 52 f27_51 rfl rfl (by decide +kernel) (by decide +kernel) (by decide +kernel) rfl ?_
      refine zw_aload_n 53 f27_52 rfl rfl ?_
      refine zw_getfield 56 f27_53 rfl g27_89_9 rfl rfl ?_
      refine zw_iconst 0 57 f27_56 rfl (by decide +kernel) ?_
      refine zw_aload_n 58 f27_57 rfl rfl ?_
      refine zw_getfield 61 f27_58 rfl g27_25_5 rfl rfl ?_
      refine zw_iload_n 62 f27_61 rfl rfl ?_
      refine zw_bipush 8 64 f27_62 rfl (by decide +kernel) ?_
      refine zw_imul 0 65 f27_64 rfl (by decide +kernel) ?_
      refine zw_bipush 8 67 f27_65 rfl (by decide +kernel) ?_
      refine zw_copylS 70 8 0 0 f27_67 rfl k27_90_99 rfl rfl (by decide +kernel) (by decide +kernel) (by decide +kernel) (by decide +kernel) (by decide +kernel) (by decide +kernel) (by decide +kernel) (by decide +kernel) (Nat.le_of_ble_eq_true rfl) (zcpy0 _ _ _) ?_
      refine zw_vreturn f27_70 r27 u27 ⟨rfl, ?_⟩
      refine zw_iconst 1 10 f25_9 rfl (by decide +kernel) ?_
      refine zw_istore_n [(2, .int 1), (0, .ref 38), (1, .ref 22)] 11 f25_10 rfl (by decide +kernel) rfl ?_
      refine zw_iload_n 12 f25_11 rfl rfl ?_
      refine zw_sipush 151 15 f25_12 rfl (by decide +kernel) ?_
      refine zw_ic_ge_f 18 82 f25_15 (by decide +kernel) rfl (by decide +kernel) ?_
      refine zw_aload_n 19 f25_18 rfl rfl ?_
      refine zw_virtual_v 22 0 0 [.ref 22] [(0, .ref 22)] f25_19 rfl n25_38 k25_38_10 rfl rfl (by decide +kernel) (Nat.le_of_ble_eq_true rfl) rfl rfl (by decide +kernel) (by decide +kernel) rfl (Nat.le_of_ble_eq_true rfl) rfl ?_
      refine zw_aload_n 1 f53_0 rfl rfl ?_
      refine zw_virtual_v 4 0 0 [.ref 22] [(0, .ref 22)] f53_1 rfl n53_113 k53_113_10 rfl rfl (by decide +kernel) (Nat.le_of_ble_eq_true rfl) rfl rfl (by decide +kernel) (by decide +kernel) rfl (Nat.le_of_ble_eq_true rfl) rfl ?_
      refine zw_aload_n 1 f49_0 rfl rfl ?_
      refine zw_iconst 0 2 f49_1 rfl (by decide +kernel) ?_
      refine zw_putfieldS 5 f49_2 rfl g49_54_10 rfl rfl rfl (by decide +kernel) ?_
      refine zw_aload_n 6 f49_5 rfl rfl ?_
      refine zw_iconst 0 7 f49_6 rfl (by decide +kernel) ?_
      refine zw_putfieldS 10 f49_7 rfl g49_58_10 rfl rfl rfl (by decide +kernel) ?_
      refine zw_iconst 0 11 f49_10 rfl (by decide +kernel) ?_
      refine zw_istore_n [(1, .int 0), (0, .ref 22)] 12 f49_11 rfl (by decide +kernel) rfl ?_
      refine zw_iload_n 13 f49_12 rfl rfl ?_
      refine zw_bipush 8 15 f49_13 rfl (by decide +kernel) ?_
      refine zw_ic_ge_f 18 31 f49_15 (by decide +kernel) rfl (by decide +kernel) ?_
      refine zw_aload_n 19 f49_18 rfl rfl ?_
      refine zw_getfield 22 f49_19 rfl g49_18_10 rfl rfl ?_
      refine zw_iload_n 23 f49_22 rfl rfl ?_
      refine zw_iconst 0 24 f49_23 rfl (by decide +kernel) ?_
      refine zw_iastoreS 0 25 f49_24 rfl rfl (by decide +kernel) (by decide +kernel) (by decide +kernel) rfl ?_
      refine zw_iinc 1 [(1, .int 1), (0, .ref 22)] 28 f49_25 rfl rfl (by decide +kernel) (by decide +kernel) rfl ?_
      refine zw_goto 12 f49_28 (by decide +kernel) ?_
      refine zw_iload_n 13 f49_12 rfl rfl ?_
      refine zw_bipush 8 15 f49_13 rfl (by decide +kernel) ?_
      refine zw_ic_ge_f 18 31 f49_15 (by decide +kernel) rfl (by decide +kernel) ?_
      refine zw_aload_n 19 f49_18 rfl rfl ?_
      refine zw_getfield 22 f49_19 rfl g49_18_10 rfl rfl ?_
      refine zw_iload_n 23 f49_22 rfl rfl ?_
      refine zw_iconst 0 24 f49_23 rfl (by decide +kernel) ?_
      refine zw_iastoreS 1 25 f49_24 rfl rfl (by decide +kernel) (by decide +kernel) (by decide +kernel) rfl ?_
      refine zw_iinc 2 [(1, .int 2), (0, .ref 22)] 28 f49_25 rfl rfl (by decide +kernel) (by decide +kernel) rfl ?_
      refine zw_goto 12 f49_28 (by decide +kernel) ?_
      refine zw_iload_n 13 f49_12 rfl rfl ?_
      refine zw_bipush 8 15 f49_13 rfl (by decide +kernel) ?_
      refine zw_ic_ge_f 18 31 f49_15 (by decide +kernel) rfl (by decide +kernel) ?_
      refine zw_aload_n 19 f49_18 rfl rfl ?_
      refine zw_getfield 22 f49_19 rfl g49_18_10 rfl rfl ?_
      refine zw_iload_n 23 f49_22 rfl rfl ?_
      refine zw_iconst 0 24 f49_23 rfl (by decide +kernel) ?_
      refine zw_iastoreS 2 25 f49_24 rfl rfl (by decide +kernel) (by decide +kernel) (by decide +kernel) rfl ?_
      refine zw_iinc 3 [(1, .int 3), (0, .ref 22)] 28 f49_25 rfl rfl (by decide +kernel) (by decide +kernel) rfl ?_
      refine zw_goto 12 f49_28 (by decide +kernel) ?_
      refine zw_iload_n 13 f49_12 rfl rfl ?_
      refine zw_bipush 8 15 f49_13 rfl (by decide +kernel) ?_
      refine zw_ic_ge_f 18 31 f49_15 (by decide +kernel) rfl (by decide +kernel) ?_
      refine zw_aload_n 19 f49_18 rfl rfl ?_
      refine zw_getfield 22 f49_19 rfl g49_18_10 rfl rfl ?_
      refine zw_iload_n 23 f49_22 rfl rfl ?_
      refine zw_iconst 0 24 f49_23 rfl (by decide +kernel) ?_
      refine zw_iastoreS 3 25 f49_24 rfl rfl (by decide +kernel) (by decide +kernel) (by decide +kernel) rfl ?_
      refine zw_iinc 4 [(1, .int 4), (0, .ref 22)] 28 f49_25 rfl rfl (by decide +kernel) (by decide +kernel) rfl ?_
      refine zw_goto 12 f49_28 (by decide +kernel) ?_
      refine zw_iload_n 13 f49_12 rfl rfl ?_
      refine zw_bipush 8 15 f49_13 rfl (by decide +kernel) ?_
      refine zw_ic_ge_f 18 31 f49_15 (by decide +kernel) rfl (by decide +kernel) ?_
      refine zw_aload_n 19 f49_18 rfl rfl ?_
      refine zw_getfield 22 f49_19 rfl g49_18_10 rfl rfl ?_
      refine zw_iload_n 23 f49_22 rfl rfl ?_
      refine zw_iconst 0 24 f49_23 rfl (by decide +kernel) ?_
      refine zw_iastoreS 4 25 f49_24 rfl rfl (by decide +kernel) (by decide +kernel) (by decide +kernel) rfl ?_
      refine zw_iinc 5 [(1, .int 5), (0, .ref 22)] 28 f49_25 rfl rfl (by decide +kernel) (by decide +kernel) rfl ?_
      refine zw_goto 12 f49_28 (by decide +kernel) ?_
      refine zw_iload_n 13 f49_12 rfl rfl ?_
      refine zw_bipush 8 15 f49_13 rfl (by decide +kernel) ?_
      refine zw_ic_ge_f 18 31 f49_15 (by decide +kernel) rfl (by decide +kernel) ?_
      refine zw_aload_n 19 f49_18 rfl rfl ?_
      refine zw_getfield 22 f49_19 rfl g49_18_10 rfl rfl ?_
      refine zw_iload_n 23 f49_22 rfl rfl ?_
      refine zw_iconst 0 24 f49_23 rfl (by decide +kernel) ?_
      refine zw_iastoreS 5 25 f49_24 rfl rfl (by decide +kernel) (by decide +kernel) (by decide +kernel) rfl ?_
      refine zw_iinc 6 [(1, .int 6), (0, .ref 22)] 28 f49_25 rfl rfl (by decide +kernel) (by decide +kernel) rfl ?_
      refine zw_goto 12 f49_28 (by decide +kernel) ?_
      refine zw_iload_n 13 f49_12 rfl rfl ?_
      refine zw_bipush 8 15 f49_13 rfl (by decide +kernel) ?_
      refine zw_ic_ge_f 18 31 f49_15 (by decide +kernel) rfl (by decide +kernel) ?_
      refine zw_aload_n 19 f49_18 rfl rfl ?_
      refine zw_getfield 22 f49_19 rfl g49_18_10 rfl rfl ?_
      refine zw_iload_n 23 f49_22 rfl rfl ?_
      refine zw_iconst 0 24 f49_23 rfl (by decide +kernel) ?_
      refine zw_iastoreS 6 25 f49_24 rfl rfl (by decide +kernel) (by decide +kernel) (by decide +kernel) rfl ?_
      refine zw_iinc 7 [(1, .int 7), (0, .ref 22)] 28 f49_25 rfl rfl (by decide +kernel) (by decide +kernel) rfl ?_
      refine zw_goto 12 f49_28 (by decide +kernel) ?_
      refine zw_iload_n 13 f49_12 rfl rfl ?_
      refine zw_bipush 8 15 f49_13 rfl (by decide +kernel) ?_
      refine zw_ic_ge_f 18 31 f49_15 (by decide +kernel) rfl (by decide +kernel) ?_
      refine zw_aload_n 19 f49_18 rfl rfl ?_
      refine zw_getfield 22 f49_19 rfl g49_18_10 rfl rfl ?_
      refine zw_iload_n 23 f49_22 rfl rfl ?_
      refine zw_iconst 0 24 f49_23 rfl (by decide +kernel) ?_
      refine zw_iastoreS 7 25 f49_24 rfl rfl (by decide +kernel) (by decide +kernel) (by decide +kernel) rfl ?_
      refine zw_iinc 8 [(1, .int 8), (0, .ref 22)] 28 f49_25 rfl rfl (by decide +kernel) (by decide +kernel) rfl ?_
      refine zw_goto 12 f49_28 (by decide +kernel) ?_
      refine zw_iload_n 13 f49_12 rfl rfl ?_
      refine zw_bipush 8 15 f49_13 rfl (by decide +kernel) ?_
      refine zw_ic_ge_t 31 f49_15 (by decide +kernel) (by decide +kernel) ?_
      refine zw_iconst 0 32 f49_31 rfl (by decide +kernel) ?_
      refine zw_istore_n [(1, .int 0), (0, .ref 22)] 33 f49_32 rfl (by decide +kernel) rfl ?_
      refine zw_iload_n 34 f49_33 rfl rfl ?_
      refine zw_aload_n 35 f49_34 rfl rfl ?_
      refine zw_getfield 38 f49_35 rfl g49_37_10 rfl rfl ?_
      refine zw_getfield 41 f49_38 rfl g49_61_4 rfl rfl ?_
      refine zw_ic_ge_t 124 f49_41 (by decide +kernel) (by decide +kernel) ?_
      refine zw_iconst 0 125 f49_124 rfl (by decide +kernel) ?_
      refine zw_istore_n [(1, .int 0), (0, .ref 22)] 126 f49_125 rfl (by decide +kernel) rfl ?_
      refine zw_iload_n 127 f49_126 rfl rfl ?_
      refine zw_aload_n 128 f49_127 rfl rfl ?_
      refine zw_getfield 131 f49_128 rfl g49_37_10 rfl rfl ?_
      refine zw_getfield 134 f49_131 rfl g49_80_4 rfl rfl ?_
      refine zw_ic_ge_t 148 f49_134 (by decide +kernel) (by decide +kernel) ?_
      refine zw_vreturn f49_148 r49 u49 ⟨rfl, ?_⟩
      refine zw_aload_n 5 f53_4 rfl rfl ?_
      refine zw_lconst 0 6 f53_5 rfl (by decide +kernel) ?_
      refine zw_putfieldS 9 f53_6 rfl g53_116_10 rfl rfl rfl (by decide +kernel) ?_
      refine zw_aload_n 10 f53_9 rfl rfl ?_
      refine zw_lconst 0 11 f53_10 rfl (by decide +kernel) ?_
      refine zw_putfieldS 14 f53_11 rfl g53_119_10 rfl rfl rfl (by decide +kernel) ?_
      refine zw_iconst 0 15 f53_14 rfl (by decide +kernel) ?_
      refine zw_istore_n [(1, .int 0), (0, .ref 22)] 16 f53_15 rfl (by decide +kernel) rfl ?_
      refine zw_iload_n 17 f53_16 rfl rfl ?_
      refine zw_aload_n 18 f53_17 rfl rfl ?_
      refine zw_getfield 21 f53_18 rfl g53_37_10 rfl rfl ?_
      refine zw_getfield 24 f53_21 rfl g53_80_4 rfl rfl ?_
      refine zw_ic_ge_t 64 f53_24 (by decide +kernel) (by decide +kernel) ?_
      refine zw_vreturn f53_64 r53 u53 ⟨rfl, ?_⟩
      refine zw_aload_n 23 f25_22 rfl rfl ?_
      refine zw_virtual_i 26 0 0 [.ref 22] [(0, .ref 22)] f25_23 rfl n25_41 k25_41_10 rfl rfl (by decide +kernel) (Nat.le_of_ble_eq_true rfl) rfl rfl (by decide +kernel) (by decide +kernel) rfl (Nat.le_of_ble_eq_true rfl) rfl ?_
      refine zw_aload_n 1 f58_0 rfl rfl ?_
      refine zw_getfield 4 f58_1 rfl g58_119_10 rfl rfl ?_
      refine zw_lconst 0 5 f58_4 rfl (by decide +kernel) ?_
      refine zw_lcmp 0 6 f58_5 rfl (by decide +kernel) ?_
      refine zw_if_ne_f 9 13 f58_6 (by decide +kernel) rfl (by decide +kernel) ?_
      refine zw_iconst 1 10 f58_9 rfl (by decide +kernel) ?_
      refine zw_goto 14 f58_10 (by decide +kernel) ?_
      refine zw_zreturn f58_14 r58 u58 (by decide +kernel) ⟨_, rfl, ?_⟩
      refine zw_if_eq_f 29 31 f25_26 (by decide +kernel) rfl (by decide +kernel) ?_
      refine zw_iconst 0 30 f25_29 rfl (by decide +kernel) ?_
      refine zw_ireturn f25_30 r25 u25 ⟨_, rfl, ?_⟩
      refine zw_istore_n [(2, .int 0), (0, .ref 0), (1, .int a)] 40 f99_39 rfl (by decide +kernel) rfl ?_
      refine zw_iload_n 41 f99_40 rfl rfl ?_
      refine zw_if_ne_t 46 f99_41 (by decide +kernel) h1 ?_
      refine zw_iload_n 47 f99_46 rfl rfl ?_
      refine zw_iconst 1 48 f99_47 rfl (by decide +kernel) ?_
      refine zw_ic_ne_t 62 f99_48 (by decide +kernel) (by decide +kernel) ?_
      refine zw_iconst (-1) 63 f99_62 rfl (by decide +kernel) ?_
      refine zw_ireturn f99_63 r99 u99 ?_
      exact ⟨rfl, by repeat (first | exact zMF_0 | refine zMF_set (by decide) ?_)⟩
set_option maxRecDepth 100000 in
set_option maxHeartbeats 0 in
theorem x_tune_r (ro : UInt32 → Nat × (Nat → Int32)) (a b c d e : Int32) : zWp ro 100 0 [(0, .ref 0), (1, .int a), (2, .int b), (3, .int c), (4, .int d), (5, .int e)] [] hF 0 0 (fun r h1 => r = some (.int (-1)) ∧ zMF h1) := by
  refine zw_aload_n 1 f100_0 rfl rfl ?_
  refine zw_getfield 4 f100_1 rfl g100_10_11 rfl rfl ?_
  refine zw_iload_n 5 f100_4 rfl rfl ?_
  refine zw_virtual_i 8 0 0 [.ref 1, .int a] [(0, .ref 1), (1, .int a)] f100_5 rfl n100_109 k100_109_4 rfl rfl (by decide +kernel) (Nat.le_of_ble_eq_true rfl) rfl rfl (by decide +kernel) (by decide +kernel) rfl (Nat.le_of_ble_eq_true rfl) rfl ?_
  refine zw_iload_n 1 f14_0 rfl rfl ?_
  refine zw_if_lt 4 22 f14_1 (by decide +kernel) rfl (fun hc1 => ?_) (fun hc1 => ?_)
  · refine zw_iconst 0 23 f14_22 rfl (by decide +kernel) ?_
    refine zw_zreturn f14_23 r14 u14 (by decide +kernel) ⟨_, rfl, ?_⟩
    refine zw_if_eq_t 63 f100_8 (by decide +kernel) (by decide +kernel) ?_
    refine zw_aload_n 64 f100_63 rfl rfl ?_
    refine zw_iconst 1 65 f100_64 rfl (by decide +kernel) ?_
    refine zw_virtual_i 68 0 0 [.ref 0, .int 1] [(0, .ref 0), (1, .int 1)] f100_65 rfl n100_78 k100_78_11 rfl rfl (by decide +kernel) (Nat.le_of_ble_eq_true rfl) rfl rfl (by decide +kernel) (by decide +kernel) rfl (Nat.le_of_ble_eq_true rfl) rfl ?_
    refine zw_aload_n 1 f105_0 rfl rfl ?_
    refine zw_iload_n 2 f105_1 rfl rfl ?_
    refine zw_putfield 5 f105_2 rfl g105_70_11 rfl rfl (Nat.le_of_ble_eq_true rfl) (by decide +kernel) ?_
    refine zw_iconst (-1) 6 f105_5 rfl (by decide +kernel) ?_
    refine zw_ireturn f105_6 r105 u105 ⟨_, rfl, ?_⟩
    refine zw_ireturn f100_68 r100 u100 ?_
    exact ⟨rfl, by repeat (first | exact zMF_0 | refine zMF_set (by decide) ?_)⟩
  · refine zw_iload_n 5 f14_4 rfl rfl ?_
    refine zw_aload_n 6 f14_5 rfl rfl ?_
    refine zw_getfield 9 f14_6 rfl g14_43_4 rfl rfl ?_
    refine zw_ic_ge_t 22 f14_9 (by decide +kernel) (Int32.not_lt.mp hc1) ?_
    refine zw_iconst 0 23 f14_22 rfl (by decide +kernel) ?_
    refine zw_zreturn f14_23 r14 u14 (by decide +kernel) ⟨_, rfl, ?_⟩
    refine zw_if_eq_t 63 f100_8 (by decide +kernel) (by decide +kernel) ?_
    refine zw_aload_n 64 f100_63 rfl rfl ?_
    refine zw_iconst 1 65 f100_64 rfl (by decide +kernel) ?_
    refine zw_virtual_i 68 0 0 [.ref 0, .int 1] [(0, .ref 0), (1, .int 1)] f100_65 rfl n100_78 k100_78_11 rfl rfl (by decide +kernel) (Nat.le_of_ble_eq_true rfl) rfl rfl (by decide +kernel) (by decide +kernel) rfl (Nat.le_of_ble_eq_true rfl) rfl ?_
    refine zw_aload_n 1 f105_0 rfl rfl ?_
    refine zw_iload_n 2 f105_1 rfl rfl ?_
    refine zw_putfield 5 f105_2 rfl g105_70_11 rfl rfl (Nat.le_of_ble_eq_true rfl) (by decide +kernel) ?_
    refine zw_iconst (-1) 6 f105_5 rfl (by decide +kernel) ?_
    refine zw_ireturn f105_6 r105 u105 ⟨_, rfl, ?_⟩
    refine zw_ireturn f100_68 r100 u100 ?_
    exact ⟨rfl, by repeat (first | exact zMF_0 | refine zMF_set (by decide) ?_)⟩
set_option maxRecDepth 100000 in
set_option maxHeartbeats 0 in
theorem x_act_r (ro : UInt32 → Nat × (Nat → Int32)) (a b c : Int32) : zWp ro 101 0 [(0, .ref 0), (1, .int a), (2, .int b), (3, .int c)] [] hF 0 0 (fun r h1 => r = some (.int (-1)) ∧ zMF h1) := by
  refine zw_aload_n 1 f101_0 rfl rfl ?_
  refine zw_getfield 4 f101_1 rfl g101_10_11 rfl rfl ?_
  refine zw_iload_n 5 f101_4 rfl rfl ?_
  refine zw_virtual_i 8 0 0 [.ref 1, .int a] [(0, .ref 1), (1, .int a)] f101_5 rfl n101_112 k101_112_4 rfl rfl (by decide +kernel) (Nat.le_of_ble_eq_true rfl) rfl rfl (by decide +kernel) (by decide +kernel) rfl (Nat.le_of_ble_eq_true rfl) rfl ?_
  refine zw_iload_n 1 f15_0 rfl rfl ?_
  refine zw_if_lt 4 27 f15_1 (by decide +kernel) rfl (fun hc1 => ?_) (fun hc1 => ?_)
  · refine zw_iconst (-1) 28 f15_27 rfl (by decide +kernel) ?_
    refine zw_ireturn f15_28 r15 u15 ⟨_, rfl, ?_⟩
    refine zw_istore [(4, .int (-1)), (0, .ref 0), (1, .int a), (2, .int b), (3, .int c)] 10 f101_8 rfl (by decide +kernel) rfl ?_
    refine zw_iload 12 f101_10 rfl rfl ?_
    refine zw_iconst 0 13 f101_12 rfl (by decide +kernel) ?_
    refine zw_iconst 4 14 f101_13 rfl (by decide +kernel) ?_
    refine zw_static_i 17 0 0 [.int (-1), .int 0, .int 4] [] [(0, .int (-1)), (1, .int 0), (2, .int 4)] f101_14 rfl k101_74_99 rfl (by decide +kernel) (Nat.le_of_ble_eq_true rfl) (Nat.le_of_ble_eq_true rfl) rfl rfl (by decide +kernel) (by decide +kernel) rfl (Nat.le_of_ble_eq_true rfl) rfl ?_
    refine zw_iload_n 1 f112_0 rfl rfl ?_
    refine zw_iload_n 2 f112_1 rfl rfl ?_
    refine zw_ic_lt_t 14 f112_2 (by decide +kernel) (by decide +kernel) ?_
    refine zw_iconst 0 15 f112_14 rfl (by decide +kernel) ?_
    refine zw_zreturn f112_15 r112 u112 (by decide +kernel) ⟨_, rfl, ?_⟩
    refine zw_if_eq_t 29 f101_17 (by decide +kernel) (by decide +kernel) ?_
    refine zw_aload_n 30 f101_29 rfl rfl ?_
    refine zw_iconst 1 31 f101_30 rfl (by decide +kernel) ?_
    refine zw_virtual_i 34 0 0 [.ref 0, .int 1] [(0, .ref 0), (1, .int 1)] f101_31 rfl n101_78 k101_78_11 rfl rfl (by decide +kernel) (Nat.le_of_ble_eq_true rfl) rfl rfl (by decide +kernel) (by decide +kernel) rfl (Nat.le_of_ble_eq_true rfl) rfl ?_
    refine zw_aload_n 1 f105_0 rfl rfl ?_
    refine zw_iload_n 2 f105_1 rfl rfl ?_
    refine zw_putfield 5 f105_2 rfl g105_70_11 rfl rfl (Nat.le_of_ble_eq_true rfl) (by decide +kernel) ?_
    refine zw_iconst (-1) 6 f105_5 rfl (by decide +kernel) ?_
    refine zw_ireturn f105_6 r105 u105 ⟨_, rfl, ?_⟩
    refine zw_ireturn f101_34 r101 u101 ?_
    exact ⟨rfl, by repeat (first | exact zMF_0 | refine zMF_set (by decide) ?_)⟩
  · refine zw_iload_n 5 f15_4 rfl rfl ?_
    refine zw_aload_n 6 f15_5 rfl rfl ?_
    refine zw_getfield 9 f15_6 rfl g15_39_4 rfl rfl ?_
    refine zw_ic_ge_t 27 f15_9 (by decide +kernel) (Int32.not_lt.mp hc1) ?_
    refine zw_iconst (-1) 28 f15_27 rfl (by decide +kernel) ?_
    refine zw_ireturn f15_28 r15 u15 ⟨_, rfl, ?_⟩
    refine zw_istore [(4, .int (-1)), (0, .ref 0), (1, .int a), (2, .int b), (3, .int c)] 10 f101_8 rfl (by decide +kernel) rfl ?_
    refine zw_iload 12 f101_10 rfl rfl ?_
    refine zw_iconst 0 13 f101_12 rfl (by decide +kernel) ?_
    refine zw_iconst 4 14 f101_13 rfl (by decide +kernel) ?_
    refine zw_static_i 17 0 0 [.int (-1), .int 0, .int 4] [] [(0, .int (-1)), (1, .int 0), (2, .int 4)] f101_14 rfl k101_74_99 rfl (by decide +kernel) (Nat.le_of_ble_eq_true rfl) (Nat.le_of_ble_eq_true rfl) rfl rfl (by decide +kernel) (by decide +kernel) rfl (Nat.le_of_ble_eq_true rfl) rfl ?_
    refine zw_iload_n 1 f112_0 rfl rfl ?_
    refine zw_iload_n 2 f112_1 rfl rfl ?_
    refine zw_ic_lt_t 14 f112_2 (by decide +kernel) (by decide +kernel) ?_
    refine zw_iconst 0 15 f112_14 rfl (by decide +kernel) ?_
    refine zw_zreturn f112_15 r112 u112 (by decide +kernel) ⟨_, rfl, ?_⟩
    refine zw_if_eq_t 29 f101_17 (by decide +kernel) (by decide +kernel) ?_
    refine zw_aload_n 30 f101_29 rfl rfl ?_
    refine zw_iconst 1 31 f101_30 rfl (by decide +kernel) ?_
    refine zw_virtual_i 34 0 0 [.ref 0, .int 1] [(0, .ref 0), (1, .int 1)] f101_31 rfl n101_78 k101_78_11 rfl rfl (by decide +kernel) (Nat.le_of_ble_eq_true rfl) rfl rfl (by decide +kernel) (by decide +kernel) rfl (Nat.le_of_ble_eq_true rfl) rfl ?_
    refine zw_aload_n 1 f105_0 rfl rfl ?_
    refine zw_iload_n 2 f105_1 rfl rfl ?_
    refine zw_putfield 5 f105_2 rfl g105_70_11 rfl rfl (Nat.le_of_ble_eq_true rfl) (by decide +kernel) ?_
    refine zw_iconst (-1) 6 f105_5 rfl (by decide +kernel) ?_
    refine zw_ireturn f105_6 r105 u105 ⟨_, rfl, ?_⟩
    refine zw_ireturn f101_34 r101 u101 ?_
    exact ⟨rfl, by repeat (first | exact zMF_0 | refine zMF_set (by decide) ?_)⟩
set_option maxRecDepth 100000 in
set_option maxHeartbeats 0 in
theorem x_trace_r (ro : UInt32 → Nat × (Nat → Int32)) (a : Int32) : zWp ro 102 0 [(0, .ref 0), (1, .int a)] [] hF 0 0 (fun r h1 => r = some (.int (-1)) ∧ zMF h1) := by
  refine zw_iload_n 1 f102_0 rfl rfl ?_
  refine zw_if_lt 4 33 f102_1 (by decide +kernel) rfl (fun hc1 => ?_) (fun hc1 => ?_)
  · refine zw_iconst (-1) 34 f102_33 rfl (by decide +kernel) ?_
    refine zw_ireturn f102_34 r102 u102 ?_
    exact ⟨rfl, by repeat (first | exact zMF_0 | refine zMF_set (by decide) ?_)⟩
  · refine zw_iload_n 5 f102_4 rfl rfl ?_
    refine zw_aload_n 6 f102_5 rfl rfl ?_
    refine zw_getfield 9 f102_6 rfl g102_45_11 rfl rfl ?_
    refine zw_getfield 12 f102_9 rfl g102_256_0 rfl rfl ?_
    refine zw_ic_ge_t 33 f102_12 (by decide +kernel) (Int32.not_lt.mp hc1) ?_
    refine zw_iconst (-1) 34 f102_33 rfl (by decide +kernel) ?_
    refine zw_ireturn f102_34 r102 u102 ?_
    exact ⟨rfl, by repeat (first | exact zMF_0 | refine zMF_set (by decide) ?_)⟩
set_option maxRecDepth 100000 in
set_option maxHeartbeats 0 in
theorem x_forge_s1 (ro : UInt32 → Nat × (Nat → Int32)) (a b c : Int32) (h0 : a < 0) : zWp ro 103 0 [(0, .ref 0), (1, .int a), (2, .int b), (3, .int c)] [] hF 0 0 (fun r h1 => r = some (.int (-1)) ∧ zMF h1) := by
  refine zw_iload_n 1 f103_0 rfl rfl ?_
  refine zw_iconst 0 2 f103_1 rfl (by decide +kernel) ?_
  refine zw_bipush 6 4 f103_2 rfl (by decide +kernel) ?_
  refine zw_static_i 7 0 0 [.int a, .int 0, .int 6] [] [(0, .int a), (1, .int 0), (2, .int 6)] f103_4 rfl k103_74_99 rfl (by decide +kernel) (Nat.le_of_ble_eq_true rfl) (Nat.le_of_ble_eq_true rfl) rfl rfl (by decide +kernel) (by decide +kernel) rfl (Nat.le_of_ble_eq_true rfl) rfl ?_
  refine zw_iload_n 1 f112_0 rfl rfl ?_
  refine zw_iload_n 2 f112_1 rfl rfl ?_
  refine zw_ic_lt_t 14 f112_2 (by decide +kernel) h0 ?_
  refine zw_iconst 0 15 f112_14 rfl (by decide +kernel) ?_
  refine zw_zreturn f112_15 r112 u112 (by decide +kernel) ⟨_, rfl, ?_⟩
  refine zw_if_eq_t 32 f103_7 (by decide +kernel) (by decide +kernel) ?_
  refine zw_aload_n 33 f103_32 rfl rfl ?_
  refine zw_iconst 1 34 f103_33 rfl (by decide +kernel) ?_
  refine zw_virtual_i 37 0 0 [.ref 0, .int 1] [(0, .ref 0), (1, .int 1)] f103_34 rfl n103_78 k103_78_11 rfl rfl (by decide +kernel) (Nat.le_of_ble_eq_true rfl) rfl rfl (by decide +kernel) (by decide +kernel) rfl (Nat.le_of_ble_eq_true rfl) rfl ?_
  refine zw_aload_n 1 f105_0 rfl rfl ?_
  refine zw_iload_n 2 f105_1 rfl rfl ?_
  refine zw_putfield 5 f105_2 rfl g105_70_11 rfl rfl (Nat.le_of_ble_eq_true rfl) (by decide +kernel) ?_
  refine zw_iconst (-1) 6 f105_5 rfl (by decide +kernel) ?_
  refine zw_ireturn f105_6 r105 u105 ⟨_, rfl, ?_⟩
  refine zw_ireturn f103_37 r103 u103 ?_
  exact ⟨rfl, by repeat (first | exact zMF_0 | refine zMF_set (by decide) ?_)⟩
set_option maxRecDepth 100000 in
set_option maxHeartbeats 0 in
theorem x_forge_s2 (ro : UInt32 → Nat × (Nat → Int32)) (a b c : Int32) (h0 : ¬ a < 0) (h9 : 6 < a) : zWp ro 103 0 [(0, .ref 0), (1, .int a), (2, .int b), (3, .int c)] [] hF 0 0 (fun r h1 => r = some (.int (-1)) ∧ zMF h1) := by
  refine zw_iload_n 1 f103_0 rfl rfl ?_
  refine zw_iconst 0 2 f103_1 rfl (by decide +kernel) ?_
  refine zw_bipush 6 4 f103_2 rfl (by decide +kernel) ?_
  refine zw_static_i 7 0 0 [.int a, .int 0, .int 6] [] [(0, .int a), (1, .int 0), (2, .int 6)] f103_4 rfl k103_74_99 rfl (by decide +kernel) (Nat.le_of_ble_eq_true rfl) (Nat.le_of_ble_eq_true rfl) rfl rfl (by decide +kernel) (by decide +kernel) rfl (Nat.le_of_ble_eq_true rfl) rfl ?_
  refine zw_iload_n 1 f112_0 rfl rfl ?_
  refine zw_iload_n 2 f112_1 rfl rfl ?_
  refine zw_ic_lt_f 5 14 f112_2 (by decide +kernel) rfl h0 ?_
  refine zw_iload_n 6 f112_5 rfl rfl ?_
  refine zw_iload_n 7 f112_6 rfl rfl ?_
  refine zw_ic_gt_t 14 f112_7 (by decide +kernel) h9 ?_
  refine zw_iconst 0 15 f112_14 rfl (by decide +kernel) ?_
  refine zw_zreturn f112_15 r112 u112 (by decide +kernel) ⟨_, rfl, ?_⟩
  refine zw_if_eq_t 32 f103_7 (by decide +kernel) (by decide +kernel) ?_
  refine zw_aload_n 33 f103_32 rfl rfl ?_
  refine zw_iconst 1 34 f103_33 rfl (by decide +kernel) ?_
  refine zw_virtual_i 37 0 0 [.ref 0, .int 1] [(0, .ref 0), (1, .int 1)] f103_34 rfl n103_78 k103_78_11 rfl rfl (by decide +kernel) (Nat.le_of_ble_eq_true rfl) rfl rfl (by decide +kernel) (by decide +kernel) rfl (Nat.le_of_ble_eq_true rfl) rfl ?_
  refine zw_aload_n 1 f105_0 rfl rfl ?_
  refine zw_iload_n 2 f105_1 rfl rfl ?_
  refine zw_putfield 5 f105_2 rfl g105_70_11 rfl rfl (Nat.le_of_ble_eq_true rfl) (by decide +kernel) ?_
  refine zw_iconst (-1) 6 f105_5 rfl (by decide +kernel) ?_
  refine zw_ireturn f105_6 r105 u105 ⟨_, rfl, ?_⟩
  refine zw_ireturn f103_37 r103 u103 ?_
  exact ⟨rfl, by repeat (first | exact zMF_0 | refine zMF_set (by decide) ?_)⟩
set_option maxRecDepth 100000 in
set_option maxHeartbeats 0 in
theorem x_forge_s3 (ro : UInt32 → Nat × (Nat → Int32)) (a b c : Int32) (h0 : ¬ a < 0) (h9 : ¬ 6 < a) (h1 : b < -100) : zWp ro 103 0 [(0, .ref 0), (1, .int a), (2, .int b), (3, .int c)] [] hF 0 0 (fun r h1 => r = some (.int (-1)) ∧ zMF h1) := by
  refine zw_iload_n 1 f103_0 rfl rfl ?_
  refine zw_iconst 0 2 f103_1 rfl (by decide +kernel) ?_
  refine zw_bipush 6 4 f103_2 rfl (by decide +kernel) ?_
  refine zw_static_i 7 0 0 [.int a, .int 0, .int 6] [] [(0, .int a), (1, .int 0), (2, .int 6)] f103_4 rfl k103_74_99 rfl (by decide +kernel) (Nat.le_of_ble_eq_true rfl) (Nat.le_of_ble_eq_true rfl) rfl rfl (by decide +kernel) (by decide +kernel) rfl (Nat.le_of_ble_eq_true rfl) rfl ?_
  refine zw_iload_n 1 f112_0 rfl rfl ?_
  refine zw_iload_n 2 f112_1 rfl rfl ?_
  refine zw_ic_lt_f 5 14 f112_2 (by decide +kernel) rfl h0 ?_
  refine zw_iload_n 6 f112_5 rfl rfl ?_
  refine zw_iload_n 7 f112_6 rfl rfl ?_
  refine zw_ic_gt_f 10 14 f112_7 (by decide +kernel) rfl h9 ?_
  refine zw_iconst 1 11 f112_10 rfl (by decide +kernel) ?_
  refine zw_goto 15 f112_11 (by decide +kernel) ?_
  refine zw_zreturn f112_15 r112 u112 (by decide +kernel) ⟨_, rfl, ?_⟩
  refine zw_if_eq_f 10 32 f103_7 (by decide +kernel) rfl (by decide +kernel) ?_
  refine zw_iload_n 11 f103_10 rfl rfl ?_
  refine zw_bipush (-100) 13 f103_11 rfl (by decide +kernel) ?_
  refine zw_bipush 100 15 f103_13 rfl (by decide +kernel) ?_
  refine zw_static_i 18 0 0 [.int b, .int (-100), .int 100] [] [(0, .int b), (1, .int (-100)), (2, .int 100)] f103_15 rfl k103_74_99 rfl (by decide +kernel) (Nat.le_of_ble_eq_true rfl) (Nat.le_of_ble_eq_true rfl) rfl rfl (by decide +kernel) (by decide +kernel) rfl (Nat.le_of_ble_eq_true rfl) rfl ?_
  refine zw_iload_n 1 f112_0 rfl rfl ?_
  refine zw_iload_n 2 f112_1 rfl rfl ?_
  refine zw_ic_lt_t 14 f112_2 (by decide +kernel) h1 ?_
  refine zw_iconst 0 15 f112_14 rfl (by decide +kernel) ?_
  refine zw_zreturn f112_15 r112 u112 (by decide +kernel) ⟨_, rfl, ?_⟩
  refine zw_if_eq_t 32 f103_18 (by decide +kernel) (by decide +kernel) ?_
  refine zw_aload_n 33 f103_32 rfl rfl ?_
  refine zw_iconst 1 34 f103_33 rfl (by decide +kernel) ?_
  refine zw_virtual_i 37 0 0 [.ref 0, .int 1] [(0, .ref 0), (1, .int 1)] f103_34 rfl n103_78 k103_78_11 rfl rfl (by decide +kernel) (Nat.le_of_ble_eq_true rfl) rfl rfl (by decide +kernel) (by decide +kernel) rfl (Nat.le_of_ble_eq_true rfl) rfl ?_
  refine zw_aload_n 1 f105_0 rfl rfl ?_
  refine zw_iload_n 2 f105_1 rfl rfl ?_
  refine zw_putfield 5 f105_2 rfl g105_70_11 rfl rfl (Nat.le_of_ble_eq_true rfl) (by decide +kernel) ?_
  refine zw_iconst (-1) 6 f105_5 rfl (by decide +kernel) ?_
  refine zw_ireturn f105_6 r105 u105 ⟨_, rfl, ?_⟩
  refine zw_ireturn f103_37 r103 u103 ?_
  exact ⟨rfl, by repeat (first | exact zMF_0 | refine zMF_set (by decide) ?_)⟩
set_option maxRecDepth 100000 in
set_option maxHeartbeats 0 in
theorem x_forge_s4 (ro : UInt32 → Nat × (Nat → Int32)) (a b c : Int32) (h0 : ¬ a < 0) (h9 : ¬ 6 < a) (h1 : ¬ b < -100) (h2 : 100 < b) : zWp ro 103 0 [(0, .ref 0), (1, .int a), (2, .int b), (3, .int c)] [] hF 0 0 (fun r h1 => r = some (.int (-1)) ∧ zMF h1) := by
  refine zw_iload_n 1 f103_0 rfl rfl ?_
  refine zw_iconst 0 2 f103_1 rfl (by decide +kernel) ?_
  refine zw_bipush 6 4 f103_2 rfl (by decide +kernel) ?_
  refine zw_static_i 7 0 0 [.int a, .int 0, .int 6] [] [(0, .int a), (1, .int 0), (2, .int 6)] f103_4 rfl k103_74_99 rfl (by decide +kernel) (Nat.le_of_ble_eq_true rfl) (Nat.le_of_ble_eq_true rfl) rfl rfl (by decide +kernel) (by decide +kernel) rfl (Nat.le_of_ble_eq_true rfl) rfl ?_
  refine zw_iload_n 1 f112_0 rfl rfl ?_
  refine zw_iload_n 2 f112_1 rfl rfl ?_
  refine zw_ic_lt_f 5 14 f112_2 (by decide +kernel) rfl h0 ?_
  refine zw_iload_n 6 f112_5 rfl rfl ?_
  refine zw_iload_n 7 f112_6 rfl rfl ?_
  refine zw_ic_gt_f 10 14 f112_7 (by decide +kernel) rfl h9 ?_
  refine zw_iconst 1 11 f112_10 rfl (by decide +kernel) ?_
  refine zw_goto 15 f112_11 (by decide +kernel) ?_
  refine zw_zreturn f112_15 r112 u112 (by decide +kernel) ⟨_, rfl, ?_⟩
  refine zw_if_eq_f 10 32 f103_7 (by decide +kernel) rfl (by decide +kernel) ?_
  refine zw_iload_n 11 f103_10 rfl rfl ?_
  refine zw_bipush (-100) 13 f103_11 rfl (by decide +kernel) ?_
  refine zw_bipush 100 15 f103_13 rfl (by decide +kernel) ?_
  refine zw_static_i 18 0 0 [.int b, .int (-100), .int 100] [] [(0, .int b), (1, .int (-100)), (2, .int 100)] f103_15 rfl k103_74_99 rfl (by decide +kernel) (Nat.le_of_ble_eq_true rfl) (Nat.le_of_ble_eq_true rfl) rfl rfl (by decide +kernel) (by decide +kernel) rfl (Nat.le_of_ble_eq_true rfl) rfl ?_
  refine zw_iload_n 1 f112_0 rfl rfl ?_
  refine zw_iload_n 2 f112_1 rfl rfl ?_
  refine zw_ic_lt_f 5 14 f112_2 (by decide +kernel) rfl h1 ?_
  refine zw_iload_n 6 f112_5 rfl rfl ?_
  refine zw_iload_n 7 f112_6 rfl rfl ?_
  refine zw_ic_gt_t 14 f112_7 (by decide +kernel) h2 ?_
  refine zw_iconst 0 15 f112_14 rfl (by decide +kernel) ?_
  refine zw_zreturn f112_15 r112 u112 (by decide +kernel) ⟨_, rfl, ?_⟩
  refine zw_if_eq_t 32 f103_18 (by decide +kernel) (by decide +kernel) ?_
  refine zw_aload_n 33 f103_32 rfl rfl ?_
  refine zw_iconst 1 34 f103_33 rfl (by decide +kernel) ?_
  refine zw_virtual_i 37 0 0 [.ref 0, .int 1] [(0, .ref 0), (1, .int 1)] f103_34 rfl n103_78 k103_78_11 rfl rfl (by decide +kernel) (Nat.le_of_ble_eq_true rfl) rfl rfl (by decide +kernel) (by decide +kernel) rfl (Nat.le_of_ble_eq_true rfl) rfl ?_
  refine zw_aload_n 1 f105_0 rfl rfl ?_
  refine zw_iload_n 2 f105_1 rfl rfl ?_
  refine zw_putfield 5 f105_2 rfl g105_70_11 rfl rfl (Nat.le_of_ble_eq_true rfl) (by decide +kernel) ?_
  refine zw_iconst (-1) 6 f105_5 rfl (by decide +kernel) ?_
  refine zw_ireturn f105_6 r105 u105 ⟨_, rfl, ?_⟩
  refine zw_ireturn f103_37 r103 u103 ?_
  exact ⟨rfl, by repeat (first | exact zMF_0 | refine zMF_set (by decide) ?_)⟩
set_option maxRecDepth 100000 in
set_option maxHeartbeats 0 in
theorem x_forge_s5 (ro : UInt32 → Nat × (Nat → Int32)) (a b c : Int32) (h0 : ¬ a < 0) (h9 : ¬ 6 < a) (h1 : ¬ b < -100) (h2 : ¬ 100 < b) (h3 : c < -100) : zWp ro 103 0 [(0, .ref 0), (1, .int a), (2, .int b), (3, .int c)] [] hF 0 0 (fun r h1 => r = some (.int (-1)) ∧ zMF h1) := by
  refine zw_iload_n 1 f103_0 rfl rfl ?_
  refine zw_iconst 0 2 f103_1 rfl (by decide +kernel) ?_
  refine zw_bipush 6 4 f103_2 rfl (by decide +kernel) ?_
  refine zw_static_i 7 0 0 [.int a, .int 0, .int 6] [] [(0, .int a), (1, .int 0), (2, .int 6)] f103_4 rfl k103_74_99 rfl (by decide +kernel) (Nat.le_of_ble_eq_true rfl) (Nat.le_of_ble_eq_true rfl) rfl rfl (by decide +kernel) (by decide +kernel) rfl (Nat.le_of_ble_eq_true rfl) rfl ?_
  refine zw_iload_n 1 f112_0 rfl rfl ?_
  refine zw_iload_n 2 f112_1 rfl rfl ?_
  refine zw_ic_lt_f 5 14 f112_2 (by decide +kernel) rfl h0 ?_
  refine zw_iload_n 6 f112_5 rfl rfl ?_
  refine zw_iload_n 7 f112_6 rfl rfl ?_
  refine zw_ic_gt_f 10 14 f112_7 (by decide +kernel) rfl h9 ?_
  refine zw_iconst 1 11 f112_10 rfl (by decide +kernel) ?_
  refine zw_goto 15 f112_11 (by decide +kernel) ?_
  refine zw_zreturn f112_15 r112 u112 (by decide +kernel) ⟨_, rfl, ?_⟩
  refine zw_if_eq_f 10 32 f103_7 (by decide +kernel) rfl (by decide +kernel) ?_
  refine zw_iload_n 11 f103_10 rfl rfl ?_
  refine zw_bipush (-100) 13 f103_11 rfl (by decide +kernel) ?_
  refine zw_bipush 100 15 f103_13 rfl (by decide +kernel) ?_
  refine zw_static_i 18 0 0 [.int b, .int (-100), .int 100] [] [(0, .int b), (1, .int (-100)), (2, .int 100)] f103_15 rfl k103_74_99 rfl (by decide +kernel) (Nat.le_of_ble_eq_true rfl) (Nat.le_of_ble_eq_true rfl) rfl rfl (by decide +kernel) (by decide +kernel) rfl (Nat.le_of_ble_eq_true rfl) rfl ?_
  refine zw_iload_n 1 f112_0 rfl rfl ?_
  refine zw_iload_n 2 f112_1 rfl rfl ?_
  refine zw_ic_lt_f 5 14 f112_2 (by decide +kernel) rfl h1 ?_
  refine zw_iload_n 6 f112_5 rfl rfl ?_
  refine zw_iload_n 7 f112_6 rfl rfl ?_
  refine zw_ic_gt_f 10 14 f112_7 (by decide +kernel) rfl h2 ?_
  refine zw_iconst 1 11 f112_10 rfl (by decide +kernel) ?_
  refine zw_goto 15 f112_11 (by decide +kernel) ?_
  refine zw_zreturn f112_15 r112 u112 (by decide +kernel) ⟨_, rfl, ?_⟩
  refine zw_if_eq_f 21 32 f103_18 (by decide +kernel) rfl (by decide +kernel) ?_
  refine zw_iload_n 22 f103_21 rfl rfl ?_
  refine zw_bipush (-100) 24 f103_22 rfl (by decide +kernel) ?_
  refine zw_bipush 100 26 f103_24 rfl (by decide +kernel) ?_
  refine zw_static_i 29 0 0 [.int c, .int (-100), .int 100] [] [(0, .int c), (1, .int (-100)), (2, .int 100)] f103_26 rfl k103_74_99 rfl (by decide +kernel) (Nat.le_of_ble_eq_true rfl) (Nat.le_of_ble_eq_true rfl) rfl rfl (by decide +kernel) (by decide +kernel) rfl (Nat.le_of_ble_eq_true rfl) rfl ?_
  refine zw_iload_n 1 f112_0 rfl rfl ?_
  refine zw_iload_n 2 f112_1 rfl rfl ?_
  refine zw_ic_lt_t 14 f112_2 (by decide +kernel) h3 ?_
  refine zw_iconst 0 15 f112_14 rfl (by decide +kernel) ?_
  refine zw_zreturn f112_15 r112 u112 (by decide +kernel) ⟨_, rfl, ?_⟩
  refine zw_if_ne_f 32 38 f103_29 (by decide +kernel) rfl (by decide +kernel) ?_
  refine zw_aload_n 33 f103_32 rfl rfl ?_
  refine zw_iconst 1 34 f103_33 rfl (by decide +kernel) ?_
  refine zw_virtual_i 37 0 0 [.ref 0, .int 1] [(0, .ref 0), (1, .int 1)] f103_34 rfl n103_78 k103_78_11 rfl rfl (by decide +kernel) (Nat.le_of_ble_eq_true rfl) rfl rfl (by decide +kernel) (by decide +kernel) rfl (Nat.le_of_ble_eq_true rfl) rfl ?_
  refine zw_aload_n 1 f105_0 rfl rfl ?_
  refine zw_iload_n 2 f105_1 rfl rfl ?_
  refine zw_putfield 5 f105_2 rfl g105_70_11 rfl rfl (Nat.le_of_ble_eq_true rfl) (by decide +kernel) ?_
  refine zw_iconst (-1) 6 f105_5 rfl (by decide +kernel) ?_
  refine zw_ireturn f105_6 r105 u105 ⟨_, rfl, ?_⟩
  refine zw_ireturn f103_37 r103 u103 ?_
  exact ⟨rfl, by repeat (first | exact zMF_0 | refine zMF_set (by decide) ?_)⟩
set_option maxRecDepth 100000 in
set_option maxHeartbeats 0 in
theorem x_forge_s6 (ro : UInt32 → Nat × (Nat → Int32)) (a b c : Int32) (h0 : ¬ a < 0) (h9 : ¬ 6 < a) (h1 : ¬ b < -100) (h2 : ¬ 100 < b) (h3 : ¬ c < -100) (h4 : 100 < c) : zWp ro 103 0 [(0, .ref 0), (1, .int a), (2, .int b), (3, .int c)] [] hF 0 0 (fun r h1 => r = some (.int (-1)) ∧ zMF h1) := by
  refine zw_iload_n 1 f103_0 rfl rfl ?_
  refine zw_iconst 0 2 f103_1 rfl (by decide +kernel) ?_
  refine zw_bipush 6 4 f103_2 rfl (by decide +kernel) ?_
  refine zw_static_i 7 0 0 [.int a, .int 0, .int 6] [] [(0, .int a), (1, .int 0), (2, .int 6)] f103_4 rfl k103_74_99 rfl (by decide +kernel) (Nat.le_of_ble_eq_true rfl) (Nat.le_of_ble_eq_true rfl) rfl rfl (by decide +kernel) (by decide +kernel) rfl (Nat.le_of_ble_eq_true rfl) rfl ?_
  refine zw_iload_n 1 f112_0 rfl rfl ?_
  refine zw_iload_n 2 f112_1 rfl rfl ?_
  refine zw_ic_lt_f 5 14 f112_2 (by decide +kernel) rfl h0 ?_
  refine zw_iload_n 6 f112_5 rfl rfl ?_
  refine zw_iload_n 7 f112_6 rfl rfl ?_
  refine zw_ic_gt_f 10 14 f112_7 (by decide +kernel) rfl h9 ?_
  refine zw_iconst 1 11 f112_10 rfl (by decide +kernel) ?_
  refine zw_goto 15 f112_11 (by decide +kernel) ?_
  refine zw_zreturn f112_15 r112 u112 (by decide +kernel) ⟨_, rfl, ?_⟩
  refine zw_if_eq_f 10 32 f103_7 (by decide +kernel) rfl (by decide +kernel) ?_
  refine zw_iload_n 11 f103_10 rfl rfl ?_
  refine zw_bipush (-100) 13 f103_11 rfl (by decide +kernel) ?_
  refine zw_bipush 100 15 f103_13 rfl (by decide +kernel) ?_
  refine zw_static_i 18 0 0 [.int b, .int (-100), .int 100] [] [(0, .int b), (1, .int (-100)), (2, .int 100)] f103_15 rfl k103_74_99 rfl (by decide +kernel) (Nat.le_of_ble_eq_true rfl) (Nat.le_of_ble_eq_true rfl) rfl rfl (by decide +kernel) (by decide +kernel) rfl (Nat.le_of_ble_eq_true rfl) rfl ?_
  refine zw_iload_n 1 f112_0 rfl rfl ?_
  refine zw_iload_n 2 f112_1 rfl rfl ?_
  refine zw_ic_lt_f 5 14 f112_2 (by decide +kernel) rfl h1 ?_
  refine zw_iload_n 6 f112_5 rfl rfl ?_
  refine zw_iload_n 7 f112_6 rfl rfl ?_
  refine zw_ic_gt_f 10 14 f112_7 (by decide +kernel) rfl h2 ?_
  refine zw_iconst 1 11 f112_10 rfl (by decide +kernel) ?_
  refine zw_goto 15 f112_11 (by decide +kernel) ?_
  refine zw_zreturn f112_15 r112 u112 (by decide +kernel) ⟨_, rfl, ?_⟩
  refine zw_if_eq_f 21 32 f103_18 (by decide +kernel) rfl (by decide +kernel) ?_
  refine zw_iload_n 22 f103_21 rfl rfl ?_
  refine zw_bipush (-100) 24 f103_22 rfl (by decide +kernel) ?_
  refine zw_bipush 100 26 f103_24 rfl (by decide +kernel) ?_
  refine zw_static_i 29 0 0 [.int c, .int (-100), .int 100] [] [(0, .int c), (1, .int (-100)), (2, .int 100)] f103_26 rfl k103_74_99 rfl (by decide +kernel) (Nat.le_of_ble_eq_true rfl) (Nat.le_of_ble_eq_true rfl) rfl rfl (by decide +kernel) (by decide +kernel) rfl (Nat.le_of_ble_eq_true rfl) rfl ?_
  refine zw_iload_n 1 f112_0 rfl rfl ?_
  refine zw_iload_n 2 f112_1 rfl rfl ?_
  refine zw_ic_lt_f 5 14 f112_2 (by decide +kernel) rfl h3 ?_
  refine zw_iload_n 6 f112_5 rfl rfl ?_
  refine zw_iload_n 7 f112_6 rfl rfl ?_
  refine zw_ic_gt_t 14 f112_7 (by decide +kernel) h4 ?_
  refine zw_iconst 0 15 f112_14 rfl (by decide +kernel) ?_
  refine zw_zreturn f112_15 r112 u112 (by decide +kernel) ⟨_, rfl, ?_⟩
  refine zw_if_ne_f 32 38 f103_29 (by decide +kernel) rfl (by decide +kernel) ?_
  refine zw_aload_n 33 f103_32 rfl rfl ?_
  refine zw_iconst 1 34 f103_33 rfl (by decide +kernel) ?_
  refine zw_virtual_i 37 0 0 [.ref 0, .int 1] [(0, .ref 0), (1, .int 1)] f103_34 rfl n103_78 k103_78_11 rfl rfl (by decide +kernel) (Nat.le_of_ble_eq_true rfl) rfl rfl (by decide +kernel) (by decide +kernel) rfl (Nat.le_of_ble_eq_true rfl) rfl ?_
  refine zw_aload_n 1 f105_0 rfl rfl ?_
  refine zw_iload_n 2 f105_1 rfl rfl ?_
  refine zw_putfield 5 f105_2 rfl g105_70_11 rfl rfl (Nat.le_of_ble_eq_true rfl) (by decide +kernel) ?_
  refine zw_iconst (-1) 6 f105_5 rfl (by decide +kernel) ?_
  refine zw_ireturn f105_6 r105 u105 ⟨_, rfl, ?_⟩
  refine zw_ireturn f103_37 r103 u103 ?_
  exact ⟨rfl, by repeat (first | exact zMF_0 | refine zMF_set (by decide) ?_)⟩
set_option maxRecDepth 100000 in
set_option maxHeartbeats 0 in
theorem x_forge_w0 (ro : UInt32 → Nat × (Nat → Int32)) (b c : Int32) (h1 : ¬ b < -100) (h2 : ¬ 100 < b) (h3 : ¬ c < -100) (h4 : ¬ 100 < c) : zWp ro 103 0 [(0, .ref 0), (1, .int 0), (2, .int b), (3, .int c)] [] hF 0 0 (fun r h1 => r = some (.int (-1)) ∧ zMF h1) := by
  refine zw_iload_n 1 f103_0 rfl rfl ?_
  refine zw_iconst 0 2 f103_1 rfl (by decide +kernel) ?_
  refine zw_bipush 6 4 f103_2 rfl (by decide +kernel) ?_
  refine zw_static_i 7 0 0 [.int 0, .int 0, .int 6] [] [(0, .int 0), (1, .int 0), (2, .int 6)] f103_4 rfl k103_74_99 rfl (by decide +kernel) (Nat.le_of_ble_eq_true rfl) (Nat.le_of_ble_eq_true rfl) rfl rfl (by decide +kernel) (by decide +kernel) rfl (Nat.le_of_ble_eq_true rfl) rfl ?_
  refine zw_iload_n 1 f112_0 rfl rfl ?_
  refine zw_iload_n 2 f112_1 rfl rfl ?_
  refine zw_ic_lt_f 5 14 f112_2 (by decide +kernel) rfl (by decide +kernel) ?_
  refine zw_iload_n 6 f112_5 rfl rfl ?_
  refine zw_iload_n 7 f112_6 rfl rfl ?_
  refine zw_ic_gt_f 10 14 f112_7 (by decide +kernel) rfl (by decide +kernel) ?_
  refine zw_iconst 1 11 f112_10 rfl (by decide +kernel) ?_
  refine zw_goto 15 f112_11 (by decide +kernel) ?_
  refine zw_zreturn f112_15 r112 u112 (by decide +kernel) ⟨_, rfl, ?_⟩
  refine zw_if_eq_f 10 32 f103_7 (by decide +kernel) rfl (by decide +kernel) ?_
  refine zw_iload_n 11 f103_10 rfl rfl ?_
  refine zw_bipush (-100) 13 f103_11 rfl (by decide +kernel) ?_
  refine zw_bipush 100 15 f103_13 rfl (by decide +kernel) ?_
  refine zw_static_i 18 0 0 [.int b, .int (-100), .int 100] [] [(0, .int b), (1, .int (-100)), (2, .int 100)] f103_15 rfl k103_74_99 rfl (by decide +kernel) (Nat.le_of_ble_eq_true rfl) (Nat.le_of_ble_eq_true rfl) rfl rfl (by decide +kernel) (by decide +kernel) rfl (Nat.le_of_ble_eq_true rfl) rfl ?_
  refine zw_iload_n 1 f112_0 rfl rfl ?_
  refine zw_iload_n 2 f112_1 rfl rfl ?_
  refine zw_ic_lt_f 5 14 f112_2 (by decide +kernel) rfl h1 ?_
  refine zw_iload_n 6 f112_5 rfl rfl ?_
  refine zw_iload_n 7 f112_6 rfl rfl ?_
  refine zw_ic_gt_f 10 14 f112_7 (by decide +kernel) rfl h2 ?_
  refine zw_iconst 1 11 f112_10 rfl (by decide +kernel) ?_
  refine zw_goto 15 f112_11 (by decide +kernel) ?_
  refine zw_zreturn f112_15 r112 u112 (by decide +kernel) ⟨_, rfl, ?_⟩
  refine zw_if_eq_f 21 32 f103_18 (by decide +kernel) rfl (by decide +kernel) ?_
  refine zw_iload_n 22 f103_21 rfl rfl ?_
  refine zw_bipush (-100) 24 f103_22 rfl (by decide +kernel) ?_
  refine zw_bipush 100 26 f103_24 rfl (by decide +kernel) ?_
  refine zw_static_i 29 0 0 [.int c, .int (-100), .int 100] [] [(0, .int c), (1, .int (-100)), (2, .int 100)] f103_26 rfl k103_74_99 rfl (by decide +kernel) (Nat.le_of_ble_eq_true rfl) (Nat.le_of_ble_eq_true rfl) rfl rfl (by decide +kernel) (by decide +kernel) rfl (Nat.le_of_ble_eq_true rfl) rfl ?_
  refine zw_iload_n 1 f112_0 rfl rfl ?_
  refine zw_iload_n 2 f112_1 rfl rfl ?_
  refine zw_ic_lt_f 5 14 f112_2 (by decide +kernel) rfl h3 ?_
  refine zw_iload_n 6 f112_5 rfl rfl ?_
  refine zw_iload_n 7 f112_6 rfl rfl ?_
  refine zw_ic_gt_f 10 14 f112_7 (by decide +kernel) rfl h4 ?_
  refine zw_iconst 1 11 f112_10 rfl (by decide +kernel) ?_
  refine zw_goto 15 f112_11 (by decide +kernel) ?_
  refine zw_zreturn f112_15 r112 u112 (by decide +kernel) ⟨_, rfl, ?_⟩
  refine zw_if_ne_t 38 f103_29 (by decide +kernel) (by decide +kernel) ?_
  refine zw_iload_n 39 f103_38 rfl rfl ?_
  refine zw_table_i (off := 37) 76 f103_39 (by decide +kernel) (by decide +kernel) (by decide +kernel) ?_
  refine zw_aload_n 77 f103_76 rfl rfl ?_
  refine zw_iload_n 78 f103_77 rfl rfl ?_
  refine zw_bipush 8 80 f103_78 rfl (by decide +kernel) ?_
  refine zw_static_i 83 0 0 [.int c, .int 8] [.ref 0] [(0, .int c), (1, .int 8)] f103_80 rfl k103_304_99 rfl (by decide +kernel) (Nat.le_of_ble_eq_true rfl) (Nat.le_of_ble_eq_true rfl) rfl rfl (by decide +kernel) (by decide +kernel) rfl (Nat.le_of_ble_eq_true rfl) rfl ?_
  refine zw_iload_n 1 f186_0 rfl rfl ?_
  refine zw_iload_n 2 f186_1 rfl rfl ?_
  refine zw_irem (c - c / 8 * 8) 3 f186_2 rfl (by decide +kernel) rfl ?_
  refine zw_istore_n [(2, .int (c - c / 8 * 8)), (0, .int c), (1, .int 8)] 4 f186_3 rfl (by decide +kernel) rfl ?_
  refine zw_iload_n 5 f186_4 rfl rfl ?_
  refine zw_iload_n 6 f186_5 rfl rfl ?_
  refine zw_ixor (c ^^^ 8) 7 f186_6 rfl rfl ?_
  refine zw_if_ge 10 18 f186_7 (by decide +kernel) rfl (fun hc1 => ?_) (fun hc1 => ?_)
  · refine zw_iload_n 19 f186_18 rfl rfl ?_
    refine zw_ireturn f186_19 r186 u186 ⟨_, rfl, ?_⟩
    refine zw_iload_n 84 f103_83 rfl rfl ?_
    refine zw_iconst 5 85 f103_84 rfl (by decide +kernel) ?_
    refine zw_static_i 88 0 0 [.int b, .int 5] [.int (c - c / 8 * 8), .ref 0] [(0, .int b), (1, .int 5)] f103_85 rfl k103_304_99 rfl (by decide +kernel) (Nat.le_of_ble_eq_true rfl) (Nat.le_of_ble_eq_true rfl) rfl rfl (by decide +kernel) (by decide +kernel) rfl (Nat.le_of_ble_eq_true rfl) rfl ?_
    refine zw_iload_n 1 f186_0 rfl rfl ?_
    refine zw_iload_n 2 f186_1 rfl rfl ?_
    refine zw_irem (b - b / 5 * 5) 3 f186_2 rfl (by decide +kernel) rfl ?_
    refine zw_istore_n [(2, .int (b - b / 5 * 5)), (0, .int b), (1, .int 5)] 4 f186_3 rfl (by decide +kernel) rfl ?_
    refine zw_iload_n 5 f186_4 rfl rfl ?_
    refine zw_iload_n 6 f186_5 rfl rfl ?_
    refine zw_ixor (b ^^^ 5) 7 f186_6 rfl rfl ?_
    refine zw_if_ge 10 18 f186_7 (by decide +kernel) rfl (fun hc2 => ?_) (fun hc2 => ?_)
    · refine zw_iload_n 19 f186_18 rfl rfl ?_
      refine zw_ireturn f186_19 r186 u186 ⟨_, rfl, ?_⟩
      refine zw_virtual_i 91 0 0 [.ref 0, .int (c - c / 8 * 8), .int (b - b / 5 * 5)] [(0, .ref 0), (1, .int (c - c / 8 * 8)), (2, .int (b - b / 5 * 5))] f103_88 rfl n103_309 k103_309_11 rfl rfl (by decide +kernel) (Nat.le_of_ble_eq_true rfl) rfl rfl (by decide +kernel) (by decide +kernel) rfl (Nat.le_of_ble_eq_true rfl) rfl ?_
      refine zw_aload_n 1 f109_0 rfl rfl ?_
      refine zw_getfield 4 f109_1 rfl g109_10_11 rfl rfl ?_
      refine zw_iload_n 5 f109_4 rfl rfl ?_
      refine zw_virtual_i 8 0 0 [.ref 1, .int (c - c / 8 * 8)] [(0, .ref 1), (1, .int (c - c / 8 * 8))] f109_5 rfl n109_89 k109_89_4 rfl rfl (by decide +kernel) (Nat.le_of_ble_eq_true rfl) rfl rfl (by decide +kernel) (by decide +kernel) rfl (Nat.le_of_ble_eq_true rfl) rfl ?_
      refine zw_iload_n 1 f13_0 rfl rfl ?_
      refine zw_if_lt 4 22 f13_1 (by decide +kernel) rfl (fun hc3 => ?_) (fun hc3 => ?_)
      · refine zw_iconst 0 23 f13_22 rfl (by decide +kernel) ?_
        refine zw_zreturn f13_23 r13 u13 (by decide +kernel) ⟨_, rfl, ?_⟩
        refine zw_if_ne_f 11 18 f109_8 (by decide +kernel) rfl (by decide +kernel) ?_
        refine zw_aload_n 12 f109_11 rfl rfl ?_
        refine zw_bipush 10 14 f109_12 rfl (by decide +kernel) ?_
        refine zw_virtual_i 17 0 0 [.ref 0, .int 10] [(0, .ref 0), (1, .int 10)] f109_14 rfl n109_78 k109_78_11 rfl rfl (by decide +kernel) (Nat.le_of_ble_eq_true rfl) rfl rfl (by decide +kernel) (by decide +kernel) rfl (Nat.le_of_ble_eq_true rfl) rfl ?_
        refine zw_aload_n 1 f105_0 rfl rfl ?_
        refine zw_iload_n 2 f105_1 rfl rfl ?_
        refine zw_putfield 5 f105_2 rfl g105_70_11 rfl rfl (Nat.le_of_ble_eq_true rfl) (by decide +kernel) ?_
        refine zw_iconst (-1) 6 f105_5 rfl (by decide +kernel) ?_
        refine zw_ireturn f105_6 r105 u105 ⟨_, rfl, ?_⟩
        refine zw_ireturn f109_17 r109 u109 ⟨_, rfl, ?_⟩
        refine zw_ireturn f103_91 r103 u103 ?_
        exact ⟨rfl, by repeat (first | exact zMF_0 | refine zMF_set (by decide) ?_)⟩
      · refine zw_iload_n 5 f13_4 rfl rfl ?_
        refine zw_aload_n 6 f13_5 rfl rfl ?_
        refine zw_getfield 9 f13_6 rfl g13_39_4 rfl rfl ?_
        refine zw_ic_ge_t 22 f13_9 (by decide +kernel) (Int32.not_lt.mp hc3) ?_
        refine zw_iconst 0 23 f13_22 rfl (by decide +kernel) ?_
        refine zw_zreturn f13_23 r13 u13 (by decide +kernel) ⟨_, rfl, ?_⟩
        refine zw_if_ne_f 11 18 f109_8 (by decide +kernel) rfl (by decide +kernel) ?_
        refine zw_aload_n 12 f109_11 rfl rfl ?_
        refine zw_bipush 10 14 f109_12 rfl (by decide +kernel) ?_
        refine zw_virtual_i 17 0 0 [.ref 0, .int 10] [(0, .ref 0), (1, .int 10)] f109_14 rfl n109_78 k109_78_11 rfl rfl (by decide +kernel) (Nat.le_of_ble_eq_true rfl) rfl rfl (by decide +kernel) (by decide +kernel) rfl (Nat.le_of_ble_eq_true rfl) rfl ?_
        refine zw_aload_n 1 f105_0 rfl rfl ?_
        refine zw_iload_n 2 f105_1 rfl rfl ?_
        refine zw_putfield 5 f105_2 rfl g105_70_11 rfl rfl (Nat.le_of_ble_eq_true rfl) (by decide +kernel) ?_
        refine zw_iconst (-1) 6 f105_5 rfl (by decide +kernel) ?_
        refine zw_ireturn f105_6 r105 u105 ⟨_, rfl, ?_⟩
        refine zw_ireturn f109_17 r109 u109 ⟨_, rfl, ?_⟩
        refine zw_ireturn f103_91 r103 u103 ?_
        exact ⟨rfl, by repeat (first | exact zMF_0 | refine zMF_set (by decide) ?_)⟩
    · refine zw_iload_n 11 f186_10 rfl rfl ?_
      refine zw_if_eq 14 18 f186_11 (by decide +kernel) rfl (fun hc4 => ?_) (fun hc4 => ?_)
      · refine zw_iload_n 19 f186_18 rfl rfl ?_
        refine zw_ireturn f186_19 r186 u186 ⟨_, rfl, ?_⟩
        refine zw_virtual_i 91 0 0 [.ref 0, .int (c - c / 8 * 8), .int (b - b / 5 * 5)] [(0, .ref 0), (1, .int (c - c / 8 * 8)), (2, .int (b - b / 5 * 5))] f103_88 rfl n103_309 k103_309_11 rfl rfl (by decide +kernel) (Nat.le_of_ble_eq_true rfl) rfl rfl (by decide +kernel) (by decide +kernel) rfl (Nat.le_of_ble_eq_true rfl) rfl ?_
        refine zw_aload_n 1 f109_0 rfl rfl ?_
        refine zw_getfield 4 f109_1 rfl g109_10_11 rfl rfl ?_
        refine zw_iload_n 5 f109_4 rfl rfl ?_
        refine zw_virtual_i 8 0 0 [.ref 1, .int (c - c / 8 * 8)] [(0, .ref 1), (1, .int (c - c / 8 * 8))] f109_5 rfl n109_89 k109_89_4 rfl rfl (by decide +kernel) (Nat.le_of_ble_eq_true rfl) rfl rfl (by decide +kernel) (by decide +kernel) rfl (Nat.le_of_ble_eq_true rfl) rfl ?_
        refine zw_iload_n 1 f13_0 rfl rfl ?_
        refine zw_if_lt 4 22 f13_1 (by decide +kernel) rfl (fun hc5 => ?_) (fun hc5 => ?_)
        · refine zw_iconst 0 23 f13_22 rfl (by decide +kernel) ?_
          refine zw_zreturn f13_23 r13 u13 (by decide +kernel) ⟨_, rfl, ?_⟩
          refine zw_if_ne_f 11 18 f109_8 (by decide +kernel) rfl (by decide +kernel) ?_
          refine zw_aload_n 12 f109_11 rfl rfl ?_
          refine zw_bipush 10 14 f109_12 rfl (by decide +kernel) ?_
          refine zw_virtual_i 17 0 0 [.ref 0, .int 10] [(0, .ref 0), (1, .int 10)] f109_14 rfl n109_78 k109_78_11 rfl rfl (by decide +kernel) (Nat.le_of_ble_eq_true rfl) rfl rfl (by decide +kernel) (by decide +kernel) rfl (Nat.le_of_ble_eq_true rfl) rfl ?_
          refine zw_aload_n 1 f105_0 rfl rfl ?_
          refine zw_iload_n 2 f105_1 rfl rfl ?_
          refine zw_putfield 5 f105_2 rfl g105_70_11 rfl rfl (Nat.le_of_ble_eq_true rfl) (by decide +kernel) ?_
          refine zw_iconst (-1) 6 f105_5 rfl (by decide +kernel) ?_
          refine zw_ireturn f105_6 r105 u105 ⟨_, rfl, ?_⟩
          refine zw_ireturn f109_17 r109 u109 ⟨_, rfl, ?_⟩
          refine zw_ireturn f103_91 r103 u103 ?_
          exact ⟨rfl, by repeat (first | exact zMF_0 | refine zMF_set (by decide) ?_)⟩
        · refine zw_iload_n 5 f13_4 rfl rfl ?_
          refine zw_aload_n 6 f13_5 rfl rfl ?_
          refine zw_getfield 9 f13_6 rfl g13_39_4 rfl rfl ?_
          refine zw_ic_ge_t 22 f13_9 (by decide +kernel) (Int32.not_lt.mp hc5) ?_
          refine zw_iconst 0 23 f13_22 rfl (by decide +kernel) ?_
          refine zw_zreturn f13_23 r13 u13 (by decide +kernel) ⟨_, rfl, ?_⟩
          refine zw_if_ne_f 11 18 f109_8 (by decide +kernel) rfl (by decide +kernel) ?_
          refine zw_aload_n 12 f109_11 rfl rfl ?_
          refine zw_bipush 10 14 f109_12 rfl (by decide +kernel) ?_
          refine zw_virtual_i 17 0 0 [.ref 0, .int 10] [(0, .ref 0), (1, .int 10)] f109_14 rfl n109_78 k109_78_11 rfl rfl (by decide +kernel) (Nat.le_of_ble_eq_true rfl) rfl rfl (by decide +kernel) (by decide +kernel) rfl (Nat.le_of_ble_eq_true rfl) rfl ?_
          refine zw_aload_n 1 f105_0 rfl rfl ?_
          refine zw_iload_n 2 f105_1 rfl rfl ?_
          refine zw_putfield 5 f105_2 rfl g105_70_11 rfl rfl (Nat.le_of_ble_eq_true rfl) (by decide +kernel) ?_
          refine zw_iconst (-1) 6 f105_5 rfl (by decide +kernel) ?_
          refine zw_ireturn f105_6 r105 u105 ⟨_, rfl, ?_⟩
          refine zw_ireturn f109_17 r109 u109 ⟨_, rfl, ?_⟩
          refine zw_ireturn f103_91 r103 u103 ?_
          exact ⟨rfl, by repeat (first | exact zMF_0 | refine zMF_set (by decide) ?_)⟩
      · refine zw_iload_n 15 f186_14 rfl rfl ?_
        refine zw_iload_n 16 f186_15 rfl rfl ?_
        refine zw_iadd ((b - b / 5 * 5) + 5) 17 f186_16 rfl rfl ?_
        refine zw_ireturn f186_17 r186 u186 ⟨_, rfl, ?_⟩
        refine zw_virtual_i 91 0 0 [.ref 0, .int (c - c / 8 * 8), .int ((b - b / 5 * 5) + 5)] [(0, .ref 0), (1, .int (c - c / 8 * 8)), (2, .int ((b - b / 5 * 5) + 5))] f103_88 rfl n103_309 k103_309_11 rfl rfl (by decide +kernel) (Nat.le_of_ble_eq_true rfl) rfl rfl (by decide +kernel) (by decide +kernel) rfl (Nat.le_of_ble_eq_true rfl) rfl ?_
        refine zw_aload_n 1 f109_0 rfl rfl ?_
        refine zw_getfield 4 f109_1 rfl g109_10_11 rfl rfl ?_
        refine zw_iload_n 5 f109_4 rfl rfl ?_
        refine zw_virtual_i 8 0 0 [.ref 1, .int (c - c / 8 * 8)] [(0, .ref 1), (1, .int (c - c / 8 * 8))] f109_5 rfl n109_89 k109_89_4 rfl rfl (by decide +kernel) (Nat.le_of_ble_eq_true rfl) rfl rfl (by decide +kernel) (by decide +kernel) rfl (Nat.le_of_ble_eq_true rfl) rfl ?_
        refine zw_iload_n 1 f13_0 rfl rfl ?_
        refine zw_if_lt 4 22 f13_1 (by decide +kernel) rfl (fun hc6 => ?_) (fun hc6 => ?_)
        · refine zw_iconst 0 23 f13_22 rfl (by decide +kernel) ?_
          refine zw_zreturn f13_23 r13 u13 (by decide +kernel) ⟨_, rfl, ?_⟩
          refine zw_if_ne_f 11 18 f109_8 (by decide +kernel) rfl (by decide +kernel) ?_
          refine zw_aload_n 12 f109_11 rfl rfl ?_
          refine zw_bipush 10 14 f109_12 rfl (by decide +kernel) ?_
          refine zw_virtual_i 17 0 0 [.ref 0, .int 10] [(0, .ref 0), (1, .int 10)] f109_14 rfl n109_78 k109_78_11 rfl rfl (by decide +kernel) (Nat.le_of_ble_eq_true rfl) rfl rfl (by decide +kernel) (by decide +kernel) rfl (Nat.le_of_ble_eq_true rfl) rfl ?_
          refine zw_aload_n 1 f105_0 rfl rfl ?_
          refine zw_iload_n 2 f105_1 rfl rfl ?_
          refine zw_putfield 5 f105_2 rfl g105_70_11 rfl rfl (Nat.le_of_ble_eq_true rfl) (by decide +kernel) ?_
          refine zw_iconst (-1) 6 f105_5 rfl (by decide +kernel) ?_
          refine zw_ireturn f105_6 r105 u105 ⟨_, rfl, ?_⟩
          refine zw_ireturn f109_17 r109 u109 ⟨_, rfl, ?_⟩
          refine zw_ireturn f103_91 r103 u103 ?_
          exact ⟨rfl, by repeat (first | exact zMF_0 | refine zMF_set (by decide) ?_)⟩
        · refine zw_iload_n 5 f13_4 rfl rfl ?_
          refine zw_aload_n 6 f13_5 rfl rfl ?_
          refine zw_getfield 9 f13_6 rfl g13_39_4 rfl rfl ?_
          refine zw_ic_ge_t 22 f13_9 (by decide +kernel) (Int32.not_lt.mp hc6) ?_
          refine zw_iconst 0 23 f13_22 rfl (by decide +kernel) ?_
          refine zw_zreturn f13_23 r13 u13 (by decide +kernel) ⟨_, rfl, ?_⟩
          refine zw_if_ne_f 11 18 f109_8 (by decide +kernel) rfl (by decide +kernel) ?_
          refine zw_aload_n 12 f109_11 rfl rfl ?_
          refine zw_bipush 10 14 f109_12 rfl (by decide +kernel) ?_
          refine zw_virtual_i 17 0 0 [.ref 0, .int 10] [(0, .ref 0), (1, .int 10)] f109_14 rfl n109_78 k109_78_11 rfl rfl (by decide +kernel) (Nat.le_of_ble_eq_true rfl) rfl rfl (by decide +kernel) (by decide +kernel) rfl (Nat.le_of_ble_eq_true rfl) rfl ?_
          refine zw_aload_n 1 f105_0 rfl rfl ?_
          refine zw_iload_n 2 f105_1 rfl rfl ?_
          refine zw_putfield 5 f105_2 rfl g105_70_11 rfl rfl (Nat.le_of_ble_eq_true rfl) (by decide +kernel) ?_
          refine zw_iconst (-1) 6 f105_5 rfl (by decide +kernel) ?_
          refine zw_ireturn f105_6 r105 u105 ⟨_, rfl, ?_⟩
          refine zw_ireturn f109_17 r109 u109 ⟨_, rfl, ?_⟩
          refine zw_ireturn f103_91 r103 u103 ?_
          exact ⟨rfl, by repeat (first | exact zMF_0 | refine zMF_set (by decide) ?_)⟩
  · refine zw_iload_n 11 f186_10 rfl rfl ?_
    refine zw_if_eq 14 18 f186_11 (by decide +kernel) rfl (fun hc7 => ?_) (fun hc7 => ?_)
    · refine zw_iload_n 19 f186_18 rfl rfl ?_
      refine zw_ireturn f186_19 r186 u186 ⟨_, rfl, ?_⟩
      refine zw_iload_n 84 f103_83 rfl rfl ?_
      refine zw_iconst 5 85 f103_84 rfl (by decide +kernel) ?_
      refine zw_static_i 88 0 0 [.int b, .int 5] [.int (c - c / 8 * 8), .ref 0] [(0, .int b), (1, .int 5)] f103_85 rfl k103_304_99 rfl (by decide +kernel) (Nat.le_of_ble_eq_true rfl) (Nat.le_of_ble_eq_true rfl) rfl rfl (by decide +kernel) (by decide +kernel) rfl (Nat.le_of_ble_eq_true rfl) rfl ?_
      refine zw_iload_n 1 f186_0 rfl rfl ?_
      refine zw_iload_n 2 f186_1 rfl rfl ?_
      refine zw_irem (b - b / 5 * 5) 3 f186_2 rfl (by decide +kernel) rfl ?_
      refine zw_istore_n [(2, .int (b - b / 5 * 5)), (0, .int b), (1, .int 5)] 4 f186_3 rfl (by decide +kernel) rfl ?_
      refine zw_iload_n 5 f186_4 rfl rfl ?_
      refine zw_iload_n 6 f186_5 rfl rfl ?_
      refine zw_ixor (b ^^^ 5) 7 f186_6 rfl rfl ?_
      refine zw_if_ge 10 18 f186_7 (by decide +kernel) rfl (fun hc8 => ?_) (fun hc8 => ?_)
      · refine zw_iload_n 19 f186_18 rfl rfl ?_
        refine zw_ireturn f186_19 r186 u186 ⟨_, rfl, ?_⟩
        refine zw_virtual_i 91 0 0 [.ref 0, .int (c - c / 8 * 8), .int (b - b / 5 * 5)] [(0, .ref 0), (1, .int (c - c / 8 * 8)), (2, .int (b - b / 5 * 5))] f103_88 rfl n103_309 k103_309_11 rfl rfl (by decide +kernel) (Nat.le_of_ble_eq_true rfl) rfl rfl (by decide +kernel) (by decide +kernel) rfl (Nat.le_of_ble_eq_true rfl) rfl ?_
        refine zw_aload_n 1 f109_0 rfl rfl ?_
        refine zw_getfield 4 f109_1 rfl g109_10_11 rfl rfl ?_
        refine zw_iload_n 5 f109_4 rfl rfl ?_
        refine zw_virtual_i 8 0 0 [.ref 1, .int (c - c / 8 * 8)] [(0, .ref 1), (1, .int (c - c / 8 * 8))] f109_5 rfl n109_89 k109_89_4 rfl rfl (by decide +kernel) (Nat.le_of_ble_eq_true rfl) rfl rfl (by decide +kernel) (by decide +kernel) rfl (Nat.le_of_ble_eq_true rfl) rfl ?_
        refine zw_iload_n 1 f13_0 rfl rfl ?_
        refine zw_if_lt 4 22 f13_1 (by decide +kernel) rfl (fun hc9 => ?_) (fun hc9 => ?_)
        · refine zw_iconst 0 23 f13_22 rfl (by decide +kernel) ?_
          refine zw_zreturn f13_23 r13 u13 (by decide +kernel) ⟨_, rfl, ?_⟩
          refine zw_if_ne_f 11 18 f109_8 (by decide +kernel) rfl (by decide +kernel) ?_
          refine zw_aload_n 12 f109_11 rfl rfl ?_
          refine zw_bipush 10 14 f109_12 rfl (by decide +kernel) ?_
          refine zw_virtual_i 17 0 0 [.ref 0, .int 10] [(0, .ref 0), (1, .int 10)] f109_14 rfl n109_78 k109_78_11 rfl rfl (by decide +kernel) (Nat.le_of_ble_eq_true rfl) rfl rfl (by decide +kernel) (by decide +kernel) rfl (Nat.le_of_ble_eq_true rfl) rfl ?_
          refine zw_aload_n 1 f105_0 rfl rfl ?_
          refine zw_iload_n 2 f105_1 rfl rfl ?_
          refine zw_putfield 5 f105_2 rfl g105_70_11 rfl rfl (Nat.le_of_ble_eq_true rfl) (by decide +kernel) ?_
          refine zw_iconst (-1) 6 f105_5 rfl (by decide +kernel) ?_
          refine zw_ireturn f105_6 r105 u105 ⟨_, rfl, ?_⟩
          refine zw_ireturn f109_17 r109 u109 ⟨_, rfl, ?_⟩
          refine zw_ireturn f103_91 r103 u103 ?_
          exact ⟨rfl, by repeat (first | exact zMF_0 | refine zMF_set (by decide) ?_)⟩
        · refine zw_iload_n 5 f13_4 rfl rfl ?_
          refine zw_aload_n 6 f13_5 rfl rfl ?_
          refine zw_getfield 9 f13_6 rfl g13_39_4 rfl rfl ?_
          refine zw_ic_ge_t 22 f13_9 (by decide +kernel) (Int32.not_lt.mp hc9) ?_
          refine zw_iconst 0 23 f13_22 rfl (by decide +kernel) ?_
          refine zw_zreturn f13_23 r13 u13 (by decide +kernel) ⟨_, rfl, ?_⟩
          refine zw_if_ne_f 11 18 f109_8 (by decide +kernel) rfl (by decide +kernel) ?_
          refine zw_aload_n 12 f109_11 rfl rfl ?_
          refine zw_bipush 10 14 f109_12 rfl (by decide +kernel) ?_
          refine zw_virtual_i 17 0 0 [.ref 0, .int 10] [(0, .ref 0), (1, .int 10)] f109_14 rfl n109_78 k109_78_11 rfl rfl (by decide +kernel) (Nat.le_of_ble_eq_true rfl) rfl rfl (by decide +kernel) (by decide +kernel) rfl (Nat.le_of_ble_eq_true rfl) rfl ?_
          refine zw_aload_n 1 f105_0 rfl rfl ?_
          refine zw_iload_n 2 f105_1 rfl rfl ?_
          refine zw_putfield 5 f105_2 rfl g105_70_11 rfl rfl (Nat.le_of_ble_eq_true rfl) (by decide +kernel) ?_
          refine zw_iconst (-1) 6 f105_5 rfl (by decide +kernel) ?_
          refine zw_ireturn f105_6 r105 u105 ⟨_, rfl, ?_⟩
          refine zw_ireturn f109_17 r109 u109 ⟨_, rfl, ?_⟩
          refine zw_ireturn f103_91 r103 u103 ?_
          exact ⟨rfl, by repeat (first | exact zMF_0 | refine zMF_set (by decide) ?_)⟩
      · refine zw_iload_n 11 f186_10 rfl rfl ?_
        refine zw_if_eq 14 18 f186_11 (by decide +kernel) rfl (fun hc10 => ?_) (fun hc10 => ?_)
        · refine zw_iload_n 19 f186_18 rfl rfl ?_
          refine zw_ireturn f186_19 r186 u186 ⟨_, rfl, ?_⟩
          refine zw_virtual_i 91 0 0 [.ref 0, .int (c - c / 8 * 8), .int (b - b / 5 * 5)] [(0, .ref 0), (1, .int (c - c / 8 * 8)), (2, .int (b - b / 5 * 5))] f103_88 rfl n103_309 k103_309_11 rfl rfl (by decide +kernel) (Nat.le_of_ble_eq_true rfl) rfl rfl (by decide +kernel) (by decide +kernel) rfl (Nat.le_of_ble_eq_true rfl) rfl ?_
          refine zw_aload_n 1 f109_0 rfl rfl ?_
          refine zw_getfield 4 f109_1 rfl g109_10_11 rfl rfl ?_
          refine zw_iload_n 5 f109_4 rfl rfl ?_
          refine zw_virtual_i 8 0 0 [.ref 1, .int (c - c / 8 * 8)] [(0, .ref 1), (1, .int (c - c / 8 * 8))] f109_5 rfl n109_89 k109_89_4 rfl rfl (by decide +kernel) (Nat.le_of_ble_eq_true rfl) rfl rfl (by decide +kernel) (by decide +kernel) rfl (Nat.le_of_ble_eq_true rfl) rfl ?_
          refine zw_iload_n 1 f13_0 rfl rfl ?_
          refine zw_if_lt 4 22 f13_1 (by decide +kernel) rfl (fun hc11 => ?_) (fun hc11 => ?_)
          · refine zw_iconst 0 23 f13_22 rfl (by decide +kernel) ?_
            refine zw_zreturn f13_23 r13 u13 (by decide +kernel) ⟨_, rfl, ?_⟩
            refine zw_if_ne_f 11 18 f109_8 (by decide +kernel) rfl (by decide +kernel) ?_
            refine zw_aload_n 12 f109_11 rfl rfl ?_
            refine zw_bipush 10 14 f109_12 rfl (by decide +kernel) ?_
            refine zw_virtual_i 17 0 0 [.ref 0, .int 10] [(0, .ref 0), (1, .int 10)] f109_14 rfl n109_78 k109_78_11 rfl rfl (by decide +kernel) (Nat.le_of_ble_eq_true rfl) rfl rfl (by decide +kernel) (by decide +kernel) rfl (Nat.le_of_ble_eq_true rfl) rfl ?_
            refine zw_aload_n 1 f105_0 rfl rfl ?_
            refine zw_iload_n 2 f105_1 rfl rfl ?_
            refine zw_putfield 5 f105_2 rfl g105_70_11 rfl rfl (Nat.le_of_ble_eq_true rfl) (by decide +kernel) ?_
            refine zw_iconst (-1) 6 f105_5 rfl (by decide +kernel) ?_
            refine zw_ireturn f105_6 r105 u105 ⟨_, rfl, ?_⟩
            refine zw_ireturn f109_17 r109 u109 ⟨_, rfl, ?_⟩
            refine zw_ireturn f103_91 r103 u103 ?_
            exact ⟨rfl, by repeat (first | exact zMF_0 | refine zMF_set (by decide) ?_)⟩
          · refine zw_iload_n 5 f13_4 rfl rfl ?_
            refine zw_aload_n 6 f13_5 rfl rfl ?_
            refine zw_getfield 9 f13_6 rfl g13_39_4 rfl rfl ?_
            refine zw_ic_ge_t 22 f13_9 (by decide +kernel) (Int32.not_lt.mp hc11) ?_
            refine zw_iconst 0 23 f13_22 rfl (by decide +kernel) ?_
            refine zw_zreturn f13_23 r13 u13 (by decide +kernel) ⟨_, rfl, ?_⟩
            refine zw_if_ne_f 11 18 f109_8 (by decide +kernel) rfl (by decide +kernel) ?_
            refine zw_aload_n 12 f109_11 rfl rfl ?_
            refine zw_bipush 10 14 f109_12 rfl (by decide +kernel) ?_
            refine zw_virtual_i 17 0 0 [.ref 0, .int 10] [(0, .ref 0), (1, .int 10)] f109_14 rfl n109_78 k109_78_11 rfl rfl (by decide +kernel) (Nat.le_of_ble_eq_true rfl) rfl rfl (by decide +kernel) (by decide +kernel) rfl (Nat.le_of_ble_eq_true rfl) rfl ?_
            refine zw_aload_n 1 f105_0 rfl rfl ?_
            refine zw_iload_n 2 f105_1 rfl rfl ?_
            refine zw_putfield 5 f105_2 rfl g105_70_11 rfl rfl (Nat.le_of_ble_eq_true rfl) (by decide +kernel) ?_
            refine zw_iconst (-1) 6 f105_5 rfl (by decide +kernel) ?_
            refine zw_ireturn f105_6 r105 u105 ⟨_, rfl, ?_⟩
            refine zw_ireturn f109_17 r109 u109 ⟨_, rfl, ?_⟩
            refine zw_ireturn f103_91 r103 u103 ?_
            exact ⟨rfl, by repeat (first | exact zMF_0 | refine zMF_set (by decide) ?_)⟩
        · refine zw_iload_n 15 f186_14 rfl rfl ?_
          refine zw_iload_n 16 f186_15 rfl rfl ?_
          refine zw_iadd ((b - b / 5 * 5) + 5) 17 f186_16 rfl rfl ?_
          refine zw_ireturn f186_17 r186 u186 ⟨_, rfl, ?_⟩
          refine zw_virtual_i 91 0 0 [.ref 0, .int (c - c / 8 * 8), .int ((b - b / 5 * 5) + 5)] [(0, .ref 0), (1, .int (c - c / 8 * 8)), (2, .int ((b - b / 5 * 5) + 5))] f103_88 rfl n103_309 k103_309_11 rfl rfl (by decide +kernel) (Nat.le_of_ble_eq_true rfl) rfl rfl (by decide +kernel) (by decide +kernel) rfl (Nat.le_of_ble_eq_true rfl) rfl ?_
          refine zw_aload_n 1 f109_0 rfl rfl ?_
          refine zw_getfield 4 f109_1 rfl g109_10_11 rfl rfl ?_
          refine zw_iload_n 5 f109_4 rfl rfl ?_
          refine zw_virtual_i 8 0 0 [.ref 1, .int (c - c / 8 * 8)] [(0, .ref 1), (1, .int (c - c / 8 * 8))] f109_5 rfl n109_89 k109_89_4 rfl rfl (by decide +kernel) (Nat.le_of_ble_eq_true rfl) rfl rfl (by decide +kernel) (by decide +kernel) rfl (Nat.le_of_ble_eq_true rfl) rfl ?_
          refine zw_iload_n 1 f13_0 rfl rfl ?_
          refine zw_if_lt 4 22 f13_1 (by decide +kernel) rfl (fun hc12 => ?_) (fun hc12 => ?_)
          · refine zw_iconst 0 23 f13_22 rfl (by decide +kernel) ?_
            refine zw_zreturn f13_23 r13 u13 (by decide +kernel) ⟨_, rfl, ?_⟩
            refine zw_if_ne_f 11 18 f109_8 (by decide +kernel) rfl (by decide +kernel) ?_
            refine zw_aload_n 12 f109_11 rfl rfl ?_
            refine zw_bipush 10 14 f109_12 rfl (by decide +kernel) ?_
            refine zw_virtual_i 17 0 0 [.ref 0, .int 10] [(0, .ref 0), (1, .int 10)] f109_14 rfl n109_78 k109_78_11 rfl rfl (by decide +kernel) (Nat.le_of_ble_eq_true rfl) rfl rfl (by decide +kernel) (by decide +kernel) rfl (Nat.le_of_ble_eq_true rfl) rfl ?_
            refine zw_aload_n 1 f105_0 rfl rfl ?_
            refine zw_iload_n 2 f105_1 rfl rfl ?_
            refine zw_putfield 5 f105_2 rfl g105_70_11 rfl rfl (Nat.le_of_ble_eq_true rfl) (by decide +kernel) ?_
            refine zw_iconst (-1) 6 f105_5 rfl (by decide +kernel) ?_
            refine zw_ireturn f105_6 r105 u105 ⟨_, rfl, ?_⟩
            refine zw_ireturn f109_17 r109 u109 ⟨_, rfl, ?_⟩
            refine zw_ireturn f103_91 r103 u103 ?_
            exact ⟨rfl, by repeat (first | exact zMF_0 | refine zMF_set (by decide) ?_)⟩
          · refine zw_iload_n 5 f13_4 rfl rfl ?_
            refine zw_aload_n 6 f13_5 rfl rfl ?_
            refine zw_getfield 9 f13_6 rfl g13_39_4 rfl rfl ?_
            refine zw_ic_ge_t 22 f13_9 (by decide +kernel) (Int32.not_lt.mp hc12) ?_
            refine zw_iconst 0 23 f13_22 rfl (by decide +kernel) ?_
            refine zw_zreturn f13_23 r13 u13 (by decide +kernel) ⟨_, rfl, ?_⟩
            refine zw_if_ne_f 11 18 f109_8 (by decide +kernel) rfl (by decide +kernel) ?_
            refine zw_aload_n 12 f109_11 rfl rfl ?_
            refine zw_bipush 10 14 f109_12 rfl (by decide +kernel) ?_
            refine zw_virtual_i 17 0 0 [.ref 0, .int 10] [(0, .ref 0), (1, .int 10)] f109_14 rfl n109_78 k109_78_11 rfl rfl (by decide +kernel) (Nat.le_of_ble_eq_true rfl) rfl rfl (by decide +kernel) (by decide +kernel) rfl (Nat.le_of_ble_eq_true rfl) rfl ?_
            refine zw_aload_n 1 f105_0 rfl rfl ?_
            refine zw_iload_n 2 f105_1 rfl rfl ?_
            refine zw_putfield 5 f105_2 rfl g105_70_11 rfl rfl (Nat.le_of_ble_eq_true rfl) (by decide +kernel) ?_
            refine zw_iconst (-1) 6 f105_5 rfl (by decide +kernel) ?_
            refine zw_ireturn f105_6 r105 u105 ⟨_, rfl, ?_⟩
            refine zw_ireturn f109_17 r109 u109 ⟨_, rfl, ?_⟩
            refine zw_ireturn f103_91 r103 u103 ?_
            exact ⟨rfl, by repeat (first | exact zMF_0 | refine zMF_set (by decide) ?_)⟩
    · refine zw_iload_n 15 f186_14 rfl rfl ?_
      refine zw_iload_n 16 f186_15 rfl rfl ?_
      refine zw_iadd ((c - c / 8 * 8) + 8) 17 f186_16 rfl rfl ?_
      refine zw_ireturn f186_17 r186 u186 ⟨_, rfl, ?_⟩
      refine zw_iload_n 84 f103_83 rfl rfl ?_
      refine zw_iconst 5 85 f103_84 rfl (by decide +kernel) ?_
      refine zw_static_i 88 0 0 [.int b, .int 5] [.int ((c - c / 8 * 8) + 8), .ref 0] [(0, .int b), (1, .int 5)] f103_85 rfl k103_304_99 rfl (by decide +kernel) (Nat.le_of_ble_eq_true rfl) (Nat.le_of_ble_eq_true rfl) rfl rfl (by decide +kernel) (by decide +kernel) rfl (Nat.le_of_ble_eq_true rfl) rfl ?_
      refine zw_iload_n 1 f186_0 rfl rfl ?_
      refine zw_iload_n 2 f186_1 rfl rfl ?_
      refine zw_irem (b - b / 5 * 5) 3 f186_2 rfl (by decide +kernel) rfl ?_
      refine zw_istore_n [(2, .int (b - b / 5 * 5)), (0, .int b), (1, .int 5)] 4 f186_3 rfl (by decide +kernel) rfl ?_
      refine zw_iload_n 5 f186_4 rfl rfl ?_
      refine zw_iload_n 6 f186_5 rfl rfl ?_
      refine zw_ixor (b ^^^ 5) 7 f186_6 rfl rfl ?_
      refine zw_if_ge 10 18 f186_7 (by decide +kernel) rfl (fun hc13 => ?_) (fun hc13 => ?_)
      · refine zw_iload_n 19 f186_18 rfl rfl ?_
        refine zw_ireturn f186_19 r186 u186 ⟨_, rfl, ?_⟩
        refine zw_virtual_i 91 0 0 [.ref 0, .int ((c - c / 8 * 8) + 8), .int (b - b / 5 * 5)] [(0, .ref 0), (1, .int ((c - c / 8 * 8) + 8)), (2, .int (b - b / 5 * 5))] f103_88 rfl n103_309 k103_309_11 rfl rfl (by decide +kernel) (Nat.le_of_ble_eq_true rfl) rfl rfl (by decide +kernel) (by decide +kernel) rfl (Nat.le_of_ble_eq_true rfl) rfl ?_
        refine zw_aload_n 1 f109_0 rfl rfl ?_
        refine zw_getfield 4 f109_1 rfl g109_10_11 rfl rfl ?_
        refine zw_iload_n 5 f109_4 rfl rfl ?_
        refine zw_virtual_i 8 0 0 [.ref 1, .int ((c - c / 8 * 8) + 8)] [(0, .ref 1), (1, .int ((c - c / 8 * 8) + 8))] f109_5 rfl n109_89 k109_89_4 rfl rfl (by decide +kernel) (Nat.le_of_ble_eq_true rfl) rfl rfl (by decide +kernel) (by decide +kernel) rfl (Nat.le_of_ble_eq_true rfl) rfl ?_
        refine zw_iload_n 1 f13_0 rfl rfl ?_
        refine zw_if_lt 4 22 f13_1 (by decide +kernel) rfl (fun hc14 => ?_) (fun hc14 => ?_)
        · refine zw_iconst 0 23 f13_22 rfl (by decide +kernel) ?_
          refine zw_zreturn f13_23 r13 u13 (by decide +kernel) ⟨_, rfl, ?_⟩
          refine zw_if_ne_f 11 18 f109_8 (by decide +kernel) rfl (by decide +kernel) ?_
          refine zw_aload_n 12 f109_11 rfl rfl ?_
          refine zw_bipush 10 14 f109_12 rfl (by decide +kernel) ?_
          refine zw_virtual_i 17 0 0 [.ref 0, .int 10] [(0, .ref 0), (1, .int 10)] f109_14 rfl n109_78 k109_78_11 rfl rfl (by decide +kernel) (Nat.le_of_ble_eq_true rfl) rfl rfl (by decide +kernel) (by decide +kernel) rfl (Nat.le_of_ble_eq_true rfl) rfl ?_
          refine zw_aload_n 1 f105_0 rfl rfl ?_
          refine zw_iload_n 2 f105_1 rfl rfl ?_
          refine zw_putfield 5 f105_2 rfl g105_70_11 rfl rfl (Nat.le_of_ble_eq_true rfl) (by decide +kernel) ?_
          refine zw_iconst (-1) 6 f105_5 rfl (by decide +kernel) ?_
          refine zw_ireturn f105_6 r105 u105 ⟨_, rfl, ?_⟩
          refine zw_ireturn f109_17 r109 u109 ⟨_, rfl, ?_⟩
          refine zw_ireturn f103_91 r103 u103 ?_
          exact ⟨rfl, by repeat (first | exact zMF_0 | refine zMF_set (by decide) ?_)⟩
        · refine zw_iload_n 5 f13_4 rfl rfl ?_
          refine zw_aload_n 6 f13_5 rfl rfl ?_
          refine zw_getfield 9 f13_6 rfl g13_39_4 rfl rfl ?_
          refine zw_ic_ge_t 22 f13_9 (by decide +kernel) (Int32.not_lt.mp hc14) ?_
          refine zw_iconst 0 23 f13_22 rfl (by decide +kernel) ?_
          refine zw_zreturn f13_23 r13 u13 (by decide +kernel) ⟨_, rfl, ?_⟩
          refine zw_if_ne_f 11 18 f109_8 (by decide +kernel) rfl (by decide +kernel) ?_
          refine zw_aload_n 12 f109_11 rfl rfl ?_
          refine zw_bipush 10 14 f109_12 rfl (by decide +kernel) ?_
          refine zw_virtual_i 17 0 0 [.ref 0, .int 10] [(0, .ref 0), (1, .int 10)] f109_14 rfl n109_78 k109_78_11 rfl rfl (by decide +kernel) (Nat.le_of_ble_eq_true rfl) rfl rfl (by decide +kernel) (by decide +kernel) rfl (Nat.le_of_ble_eq_true rfl) rfl ?_
          refine zw_aload_n 1 f105_0 rfl rfl ?_
          refine zw_iload_n 2 f105_1 rfl rfl ?_
          refine zw_putfield 5 f105_2 rfl g105_70_11 rfl rfl (Nat.le_of_ble_eq_true rfl) (by decide +kernel) ?_
          refine zw_iconst (-1) 6 f105_5 rfl (by decide +kernel) ?_
          refine zw_ireturn f105_6 r105 u105 ⟨_, rfl, ?_⟩
          refine zw_ireturn f109_17 r109 u109 ⟨_, rfl, ?_⟩
          refine zw_ireturn f103_91 r103 u103 ?_
          exact ⟨rfl, by repeat (first | exact zMF_0 | refine zMF_set (by decide) ?_)⟩
      · refine zw_iload_n 11 f186_10 rfl rfl ?_
        refine zw_if_eq 14 18 f186_11 (by decide +kernel) rfl (fun hc15 => ?_) (fun hc15 => ?_)
        · refine zw_iload_n 19 f186_18 rfl rfl ?_
          refine zw_ireturn f186_19 r186 u186 ⟨_, rfl, ?_⟩
          refine zw_virtual_i 91 0 0 [.ref 0, .int ((c - c / 8 * 8) + 8), .int (b - b / 5 * 5)] [(0, .ref 0), (1, .int ((c - c / 8 * 8) + 8)), (2, .int (b - b / 5 * 5))] f103_88 rfl n103_309 k103_309_11 rfl rfl (by decide +kernel) (Nat.le_of_ble_eq_true rfl) rfl rfl (by decide +kernel) (by decide +kernel) rfl (Nat.le_of_ble_eq_true rfl) rfl ?_
          refine zw_aload_n 1 f109_0 rfl rfl ?_
          refine zw_getfield 4 f109_1 rfl g109_10_11 rfl rfl ?_
          refine zw_iload_n 5 f109_4 rfl rfl ?_
          refine zw_virtual_i 8 0 0 [.ref 1, .int ((c - c / 8 * 8) + 8)] [(0, .ref 1), (1, .int ((c - c / 8 * 8) + 8))] f109_5 rfl n109_89 k109_89_4 rfl rfl (by decide +kernel) (Nat.le_of_ble_eq_true rfl) rfl rfl (by decide +kernel) (by decide +kernel) rfl (Nat.le_of_ble_eq_true rfl) rfl ?_
          refine zw_iload_n 1 f13_0 rfl rfl ?_
          refine zw_if_lt 4 22 f13_1 (by decide +kernel) rfl (fun hc16 => ?_) (fun hc16 => ?_)
          · refine zw_iconst 0 23 f13_22 rfl (by decide +kernel) ?_
            refine zw_zreturn f13_23 r13 u13 (by decide +kernel) ⟨_, rfl, ?_⟩
            refine zw_if_ne_f 11 18 f109_8 (by decide +kernel) rfl (by decide +kernel) ?_
            refine zw_aload_n 12 f109_11 rfl rfl ?_
            refine zw_bipush 10 14 f109_12 rfl (by decide +kernel) ?_
            refine zw_virtual_i 17 0 0 [.ref 0, .int 10] [(0, .ref 0), (1, .int 10)] f109_14 rfl n109_78 k109_78_11 rfl rfl (by decide +kernel) (Nat.le_of_ble_eq_true rfl) rfl rfl (by decide +kernel) (by decide +kernel) rfl (Nat.le_of_ble_eq_true rfl) rfl ?_
            refine zw_aload_n 1 f105_0 rfl rfl ?_
            refine zw_iload_n 2 f105_1 rfl rfl ?_
            refine zw_putfield 5 f105_2 rfl g105_70_11 rfl rfl (Nat.le_of_ble_eq_true rfl) (by decide +kernel) ?_
            refine zw_iconst (-1) 6 f105_5 rfl (by decide +kernel) ?_
            refine zw_ireturn f105_6 r105 u105 ⟨_, rfl, ?_⟩
            refine zw_ireturn f109_17 r109 u109 ⟨_, rfl, ?_⟩
            refine zw_ireturn f103_91 r103 u103 ?_
            exact ⟨rfl, by repeat (first | exact zMF_0 | refine zMF_set (by decide) ?_)⟩
          · refine zw_iload_n 5 f13_4 rfl rfl ?_
            refine zw_aload_n 6 f13_5 rfl rfl ?_
            refine zw_getfield 9 f13_6 rfl g13_39_4 rfl rfl ?_
            refine zw_ic_ge_t 22 f13_9 (by decide +kernel) (Int32.not_lt.mp hc16) ?_
            refine zw_iconst 0 23 f13_22 rfl (by decide +kernel) ?_
            refine zw_zreturn f13_23 r13 u13 (by decide +kernel) ⟨_, rfl, ?_⟩
            refine zw_if_ne_f 11 18 f109_8 (by decide +kernel) rfl (by decide +kernel) ?_
            refine zw_aload_n 12 f109_11 rfl rfl ?_
            refine zw_bipush 10 14 f109_12 rfl (by decide +kernel) ?_
            refine zw_virtual_i 17 0 0 [.ref 0, .int 10] [(0, .ref 0), (1, .int 10)] f109_14 rfl n109_78 k109_78_11 rfl rfl (by decide +kernel) (Nat.le_of_ble_eq_true rfl) rfl rfl (by decide +kernel) (by decide +kernel) rfl (Nat.le_of_ble_eq_true rfl) rfl ?_
            refine zw_aload_n 1 f105_0 rfl rfl ?_
            refine zw_iload_n 2 f105_1 rfl rfl ?_
            refine zw_putfield 5 f105_2 rfl g105_70_11 rfl rfl (Nat.le_of_ble_eq_true rfl) (by decide +kernel) ?_
            refine zw_iconst (-1) 6 f105_5 rfl (by decide +kernel) ?_
            refine zw_ireturn f105_6 r105 u105 ⟨_, rfl, ?_⟩
            refine zw_ireturn f109_17 r109 u109 ⟨_, rfl, ?_⟩
            refine zw_ireturn f103_91 r103 u103 ?_
            exact ⟨rfl, by repeat (first | exact zMF_0 | refine zMF_set (by decide) ?_)⟩
        · refine zw_iload_n 15 f186_14 rfl rfl ?_
          refine zw_iload_n 16 f186_15 rfl rfl ?_
          refine zw_iadd ((b - b / 5 * 5) + 5) 17 f186_16 rfl rfl ?_
          refine zw_ireturn f186_17 r186 u186 ⟨_, rfl, ?_⟩
          refine zw_virtual_i 91 0 0 [.ref 0, .int ((c - c / 8 * 8) + 8), .int ((b - b / 5 * 5) + 5)] [(0, .ref 0), (1, .int ((c - c / 8 * 8) + 8)), (2, .int ((b - b / 5 * 5) + 5))] f103_88 rfl n103_309 k103_309_11 rfl rfl (by decide +kernel) (Nat.le_of_ble_eq_true rfl) rfl rfl (by decide +kernel) (by decide +kernel) rfl (Nat.le_of_ble_eq_true rfl) rfl ?_
          refine zw_aload_n 1 f109_0 rfl rfl ?_
          refine zw_getfield 4 f109_1 rfl g109_10_11 rfl rfl ?_
          refine zw_iload_n 5 f109_4 rfl rfl ?_
          refine zw_virtual_i 8 0 0 [.ref 1, .int ((c - c / 8 * 8) + 8)] [(0, .ref 1), (1, .int ((c - c / 8 * 8) + 8))] f109_5 rfl n109_89 k109_89_4 rfl rfl (by decide +kernel) (Nat.le_of_ble_eq_true rfl) rfl rfl (by decide +kernel) (by decide +kernel) rfl (Nat.le_of_ble_eq_true rfl) rfl ?_
          refine zw_iload_n 1 f13_0 rfl rfl ?_
          refine zw_if_lt 4 22 f13_1 (by decide +kernel) rfl (fun hc17 => ?_) (fun hc17 => ?_)
          · refine zw_iconst 0 23 f13_22 rfl (by decide +kernel) ?_
            refine zw_zreturn f13_23 r13 u13 (by decide +kernel) ⟨_, rfl, ?_⟩
            refine zw_if_ne_f 11 18 f109_8 (by decide +kernel) rfl (by decide +kernel) ?_
            refine zw_aload_n 12 f109_11 rfl rfl ?_
            refine zw_bipush 10 14 f109_12 rfl (by decide +kernel) ?_
            refine zw_virtual_i 17 0 0 [.ref 0, .int 10] [(0, .ref 0), (1, .int 10)] f109_14 rfl n109_78 k109_78_11 rfl rfl (by decide +kernel) (Nat.le_of_ble_eq_true rfl) rfl rfl (by decide +kernel) (by decide +kernel) rfl (Nat.le_of_ble_eq_true rfl) rfl ?_
            refine zw_aload_n 1 f105_0 rfl rfl ?_
            refine zw_iload_n 2 f105_1 rfl rfl ?_
            refine zw_putfield 5 f105_2 rfl g105_70_11 rfl rfl (Nat.le_of_ble_eq_true rfl) (by decide +kernel) ?_
            refine zw_iconst (-1) 6 f105_5 rfl (by decide +kernel) ?_
            refine zw_ireturn f105_6 r105 u105 ⟨_, rfl, ?_⟩
            refine zw_ireturn f109_17 r109 u109 ⟨_, rfl, ?_⟩
            refine zw_ireturn f103_91 r103 u103 ?_
            exact ⟨rfl, by repeat (first | exact zMF_0 | refine zMF_set (by decide) ?_)⟩
          · refine zw_iload_n 5 f13_4 rfl rfl ?_
            refine zw_aload_n 6 f13_5 rfl rfl ?_
            refine zw_getfield 9 f13_6 rfl g13_39_4 rfl rfl ?_
            refine zw_ic_ge_t 22 f13_9 (by decide +kernel) (Int32.not_lt.mp hc17) ?_
            refine zw_iconst 0 23 f13_22 rfl (by decide +kernel) ?_
            refine zw_zreturn f13_23 r13 u13 (by decide +kernel) ⟨_, rfl, ?_⟩
            refine zw_if_ne_f 11 18 f109_8 (by decide +kernel) rfl (by decide +kernel) ?_
            refine zw_aload_n 12 f109_11 rfl rfl ?_
            refine zw_bipush 10 14 f109_12 rfl (by decide +kernel) ?_
            refine zw_virtual_i 17 0 0 [.ref 0, .int 10] [(0, .ref 0), (1, .int 10)] f109_14 rfl n109_78 k109_78_11 rfl rfl (by decide +kernel) (Nat.le_of_ble_eq_true rfl) rfl rfl (by decide +kernel) (by decide +kernel) rfl (Nat.le_of_ble_eq_true rfl) rfl ?_
            refine zw_aload_n 1 f105_0 rfl rfl ?_
            refine zw_iload_n 2 f105_1 rfl rfl ?_
            refine zw_putfield 5 f105_2 rfl g105_70_11 rfl rfl (Nat.le_of_ble_eq_true rfl) (by decide +kernel) ?_
            refine zw_iconst (-1) 6 f105_5 rfl (by decide +kernel) ?_
            refine zw_ireturn f105_6 r105 u105 ⟨_, rfl, ?_⟩
            refine zw_ireturn f109_17 r109 u109 ⟨_, rfl, ?_⟩
            refine zw_ireturn f103_91 r103 u103 ?_
            exact ⟨rfl, by repeat (first | exact zMF_0 | refine zMF_set (by decide) ?_)⟩
set_option maxRecDepth 100000 in
set_option maxHeartbeats 0 in
theorem x_forge_w1n (ro : UInt32 → Nat × (Nat → Int32)) (b c : Int32) (h1 : ¬ b < -100) (h2 : ¬ 100 < b) (h3 : ¬ c < -100) (h4 : ¬ 100 < c) (h5 : b < 0) : zWp ro 103 0 [(0, .ref 0), (1, .int 1), (2, .int b), (3, .int c)] [] hF 0 0 (fun r h1 => r = some (.int (-1)) ∧ zMF h1) := by
  refine zw_iload_n 1 f103_0 rfl rfl ?_
  refine zw_iconst 0 2 f103_1 rfl (by decide +kernel) ?_
  refine zw_bipush 6 4 f103_2 rfl (by decide +kernel) ?_
  refine zw_static_i 7 0 0 [.int 1, .int 0, .int 6] [] [(0, .int 1), (1, .int 0), (2, .int 6)] f103_4 rfl k103_74_99 rfl (by decide +kernel) (Nat.le_of_ble_eq_true rfl) (Nat.le_of_ble_eq_true rfl) rfl rfl (by decide +kernel) (by decide +kernel) rfl (Nat.le_of_ble_eq_true rfl) rfl ?_
  refine zw_iload_n 1 f112_0 rfl rfl ?_
  refine zw_iload_n 2 f112_1 rfl rfl ?_
  refine zw_ic_lt_f 5 14 f112_2 (by decide +kernel) rfl (by decide +kernel) ?_
  refine zw_iload_n 6 f112_5 rfl rfl ?_
  refine zw_iload_n 7 f112_6 rfl rfl ?_
  refine zw_ic_gt_f 10 14 f112_7 (by decide +kernel) rfl (by decide +kernel) ?_
  refine zw_iconst 1 11 f112_10 rfl (by decide +kernel) ?_
  refine zw_goto 15 f112_11 (by decide +kernel) ?_
  refine zw_zreturn f112_15 r112 u112 (by decide +kernel) ⟨_, rfl, ?_⟩
  refine zw_if_eq_f 10 32 f103_7 (by decide +kernel) rfl (by decide +kernel) ?_
  refine zw_iload_n 11 f103_10 rfl rfl ?_
  refine zw_bipush (-100) 13 f103_11 rfl (by decide +kernel) ?_
  refine zw_bipush 100 15 f103_13 rfl (by decide +kernel) ?_
  refine zw_static_i 18 0 0 [.int b, .int (-100), .int 100] [] [(0, .int b), (1, .int (-100)), (2, .int 100)] f103_15 rfl k103_74_99 rfl (by decide +kernel) (Nat.le_of_ble_eq_true rfl) (Nat.le_of_ble_eq_true rfl) rfl rfl (by decide +kernel) (by decide +kernel) rfl (Nat.le_of_ble_eq_true rfl) rfl ?_
  refine zw_iload_n 1 f112_0 rfl rfl ?_
  refine zw_iload_n 2 f112_1 rfl rfl ?_
  refine zw_ic_lt_f 5 14 f112_2 (by decide +kernel) rfl h1 ?_
  refine zw_iload_n 6 f112_5 rfl rfl ?_
  refine zw_iload_n 7 f112_6 rfl rfl ?_
  refine zw_ic_gt_f 10 14 f112_7 (by decide +kernel) rfl h2 ?_
  refine zw_iconst 1 11 f112_10 rfl (by decide +kernel) ?_
  refine zw_goto 15 f112_11 (by decide +kernel) ?_
  refine zw_zreturn f112_15 r112 u112 (by decide +kernel) ⟨_, rfl, ?_⟩
  refine zw_if_eq_f 21 32 f103_18 (by decide +kernel) rfl (by decide +kernel) ?_
  refine zw_iload_n 22 f103_21 rfl rfl ?_
  refine zw_bipush (-100) 24 f103_22 rfl (by decide +kernel) ?_
  refine zw_bipush 100 26 f103_24 rfl (by decide +kernel) ?_
  refine zw_static_i 29 0 0 [.int c, .int (-100), .int 100] [] [(0, .int c), (1, .int (-100)), (2, .int 100)] f103_26 rfl k103_74_99 rfl (by decide +kernel) (Nat.le_of_ble_eq_true rfl) (Nat.le_of_ble_eq_true rfl) rfl rfl (by decide +kernel) (by decide +kernel) rfl (Nat.le_of_ble_eq_true rfl) rfl ?_
  refine zw_iload_n 1 f112_0 rfl rfl ?_
  refine zw_iload_n 2 f112_1 rfl rfl ?_
  refine zw_ic_lt_f 5 14 f112_2 (by decide +kernel) rfl h3 ?_
  refine zw_iload_n 6 f112_5 rfl rfl ?_
  refine zw_iload_n 7 f112_6 rfl rfl ?_
  refine zw_ic_gt_f 10 14 f112_7 (by decide +kernel) rfl h4 ?_
  refine zw_iconst 1 11 f112_10 rfl (by decide +kernel) ?_
  refine zw_goto 15 f112_11 (by decide +kernel) ?_
  refine zw_zreturn f112_15 r112 u112 (by decide +kernel) ⟨_, rfl, ?_⟩
  refine zw_if_ne_t 38 f103_29 (by decide +kernel) (by decide +kernel) ?_
  refine zw_iload_n 39 f103_38 rfl rfl ?_
  refine zw_table_i (off := 53) 92 f103_39 (by decide +kernel) (by decide +kernel) (by decide +kernel) ?_
  refine zw_iload_n 93 f103_92 rfl rfl ?_
  refine zw_if_ge_f 96 105 f103_93 (by decide +kernel) rfl (Int32.not_le.mpr h5) ?_
  refine zw_aload_n 97 f103_96 rfl rfl ?_
  refine zw_bipush 13 99 f103_97 rfl (by decide +kernel) ?_
  refine zw_virtual_i 102 0 0 [.ref 0, .int 13] [(0, .ref 0), (1, .int 13)] f103_99 rfl n103_78 k103_78_11 rfl rfl (by decide +kernel) (Nat.le_of_ble_eq_true rfl) rfl rfl (by decide +kernel) (by decide +kernel) rfl (Nat.le_of_ble_eq_true rfl) rfl ?_
  refine zw_aload_n 1 f105_0 rfl rfl ?_
  refine zw_iload_n 2 f105_1 rfl rfl ?_
  refine zw_putfield 5 f105_2 rfl g105_70_11 rfl rfl (Nat.le_of_ble_eq_true rfl) (by decide +kernel) ?_
  refine zw_iconst (-1) 6 f105_5 rfl (by decide +kernel) ?_
  refine zw_ireturn f105_6 r105 u105 ⟨_, rfl, ?_⟩
  refine zw_goto 110 f103_102 (by decide +kernel) ?_
  refine zw_ireturn f103_110 r103 u103 ?_
  exact ⟨rfl, by repeat (first | exact zMF_0 | refine zMF_set (by decide) ?_)⟩
set_option maxRecDepth 100000 in
set_option maxHeartbeats 0 in
theorem x_forge_w1p (ro : UInt32 → Nat × (Nat → Int32)) (b c : Int32) (h1 : ¬ b < -100) (h2 : ¬ 100 < b) (h3 : ¬ c < -100) (h4 : ¬ 100 < c) (h5 : ¬ b < 0) : zWp ro 103 0 [(0, .ref 0), (1, .int 1), (2, .int b), (3, .int c)] [] hF 0 0 (fun r h1 => r = some (.int b) ∧ zMF h1) := by
  refine zw_iload_n 1 f103_0 rfl rfl ?_
  refine zw_iconst 0 2 f103_1 rfl (by decide +kernel) ?_
  refine zw_bipush 6 4 f103_2 rfl (by decide +kernel) ?_
  refine zw_static_i 7 0 0 [.int 1, .int 0, .int 6] [] [(0, .int 1), (1, .int 0), (2, .int 6)] f103_4 rfl k103_74_99 rfl (by decide +kernel) (Nat.le_of_ble_eq_true rfl) (Nat.le_of_ble_eq_true rfl) rfl rfl (by decide +kernel) (by decide +kernel) rfl (Nat.le_of_ble_eq_true rfl) rfl ?_
  refine zw_iload_n 1 f112_0 rfl rfl ?_
  refine zw_iload_n 2 f112_1 rfl rfl ?_
  refine zw_ic_lt_f 5 14 f112_2 (by decide +kernel) rfl (by decide +kernel) ?_
  refine zw_iload_n 6 f112_5 rfl rfl ?_
  refine zw_iload_n 7 f112_6 rfl rfl ?_
  refine zw_ic_gt_f 10 14 f112_7 (by decide +kernel) rfl (by decide +kernel) ?_
  refine zw_iconst 1 11 f112_10 rfl (by decide +kernel) ?_
  refine zw_goto 15 f112_11 (by decide +kernel) ?_
  refine zw_zreturn f112_15 r112 u112 (by decide +kernel) ⟨_, rfl, ?_⟩
  refine zw_if_eq_f 10 32 f103_7 (by decide +kernel) rfl (by decide +kernel) ?_
  refine zw_iload_n 11 f103_10 rfl rfl ?_
  refine zw_bipush (-100) 13 f103_11 rfl (by decide +kernel) ?_
  refine zw_bipush 100 15 f103_13 rfl (by decide +kernel) ?_
  refine zw_static_i 18 0 0 [.int b, .int (-100), .int 100] [] [(0, .int b), (1, .int (-100)), (2, .int 100)] f103_15 rfl k103_74_99 rfl (by decide +kernel) (Nat.le_of_ble_eq_true rfl) (Nat.le_of_ble_eq_true rfl) rfl rfl (by decide +kernel) (by decide +kernel) rfl (Nat.le_of_ble_eq_true rfl) rfl ?_
  refine zw_iload_n 1 f112_0 rfl rfl ?_
  refine zw_iload_n 2 f112_1 rfl rfl ?_
  refine zw_ic_lt_f 5 14 f112_2 (by decide +kernel) rfl h1 ?_
  refine zw_iload_n 6 f112_5 rfl rfl ?_
  refine zw_iload_n 7 f112_6 rfl rfl ?_
  refine zw_ic_gt_f 10 14 f112_7 (by decide +kernel) rfl h2 ?_
  refine zw_iconst 1 11 f112_10 rfl (by decide +kernel) ?_
  refine zw_goto 15 f112_11 (by decide +kernel) ?_
  refine zw_zreturn f112_15 r112 u112 (by decide +kernel) ⟨_, rfl, ?_⟩
  refine zw_if_eq_f 21 32 f103_18 (by decide +kernel) rfl (by decide +kernel) ?_
  refine zw_iload_n 22 f103_21 rfl rfl ?_
  refine zw_bipush (-100) 24 f103_22 rfl (by decide +kernel) ?_
  refine zw_bipush 100 26 f103_24 rfl (by decide +kernel) ?_
  refine zw_static_i 29 0 0 [.int c, .int (-100), .int 100] [] [(0, .int c), (1, .int (-100)), (2, .int 100)] f103_26 rfl k103_74_99 rfl (by decide +kernel) (Nat.le_of_ble_eq_true rfl) (Nat.le_of_ble_eq_true rfl) rfl rfl (by decide +kernel) (by decide +kernel) rfl (Nat.le_of_ble_eq_true rfl) rfl ?_
  refine zw_iload_n 1 f112_0 rfl rfl ?_
  refine zw_iload_n 2 f112_1 rfl rfl ?_
  refine zw_ic_lt_f 5 14 f112_2 (by decide +kernel) rfl h3 ?_
  refine zw_iload_n 6 f112_5 rfl rfl ?_
  refine zw_iload_n 7 f112_6 rfl rfl ?_
  refine zw_ic_gt_f 10 14 f112_7 (by decide +kernel) rfl h4 ?_
  refine zw_iconst 1 11 f112_10 rfl (by decide +kernel) ?_
  refine zw_goto 15 f112_11 (by decide +kernel) ?_
  refine zw_zreturn f112_15 r112 u112 (by decide +kernel) ⟨_, rfl, ?_⟩
  refine zw_if_ne_t 38 f103_29 (by decide +kernel) (by decide +kernel) ?_
  refine zw_iload_n 39 f103_38 rfl rfl ?_
  refine zw_table_i (off := 53) 92 f103_39 (by decide +kernel) (by decide +kernel) (by decide +kernel) ?_
  refine zw_iload_n 93 f103_92 rfl rfl ?_
  refine zw_if_ge_t 105 f103_93 (by decide +kernel) (Int32.not_lt.mp h5) ?_
  refine zw_aload_n 106 f103_105 rfl rfl ?_
  refine zw_iload_n 107 f103_106 rfl rfl ?_
  refine zw_virtual_i 110 0 0 [.ref 0, .int b] [(0, .ref 0), (1, .int b)] f103_107 rfl n103_181 k103_181_11 rfl rfl (by decide +kernel) (Nat.le_of_ble_eq_true rfl) rfl rfl (by decide +kernel) (by decide +kernel) rfl (Nat.le_of_ble_eq_true rfl) rfl ?_
  refine zw_aload_n 1 f106_0 rfl rfl ?_
  refine zw_iconst 0 2 f106_1 rfl (by decide +kernel) ?_
  refine zw_putfieldS 5 f106_2 rfl g106_70_11 rfl rfl rfl (by decide +kernel) ?_
  refine zw_iload_n 6 f106_5 rfl rfl ?_
  refine zw_ireturn f106_6 r106 u106 ⟨_, rfl, ?_⟩
  refine zw_ireturn f103_110 r103 u103 ?_
  exact ⟨rfl, by repeat (first | exact zMF_0 | refine zMF_set (by decide) ?_)⟩
set_option maxRecDepth 100000 in
set_option maxHeartbeats 0 in
theorem x_forge_w2 (ro : UInt32 → Nat × (Nat → Int32)) (b c : Int32) (h1 : ¬ b < -100) (h2 : ¬ 100 < b) (h3 : ¬ c < -100) (h4 : ¬ 100 < c) : zWp ro 103 0 [(0, .ref 0), (1, .int 2), (2, .int b), (3, .int c)] [] hF 0 0 (fun r h1 => r = some (.int (-1)) ∧ zMF h1) := by
  refine zw_iload_n 1 f103_0 rfl rfl ?_
  refine zw_iconst 0 2 f103_1 rfl (by decide +kernel) ?_
  refine zw_bipush 6 4 f103_2 rfl (by decide +kernel) ?_
  refine zw_static_i 7 0 0 [.int 2, .int 0, .int 6] [] [(0, .int 2), (1, .int 0), (2, .int 6)] f103_4 rfl k103_74_99 rfl (by decide +kernel) (Nat.le_of_ble_eq_true rfl) (Nat.le_of_ble_eq_true rfl) rfl rfl (by decide +kernel) (by decide +kernel) rfl (Nat.le_of_ble_eq_true rfl) rfl ?_
  refine zw_iload_n 1 f112_0 rfl rfl ?_
  refine zw_iload_n 2 f112_1 rfl rfl ?_
  refine zw_ic_lt_f 5 14 f112_2 (by decide +kernel) rfl (by decide +kernel) ?_
  refine zw_iload_n 6 f112_5 rfl rfl ?_
  refine zw_iload_n 7 f112_6 rfl rfl ?_
  refine zw_ic_gt_f 10 14 f112_7 (by decide +kernel) rfl (by decide +kernel) ?_
  refine zw_iconst 1 11 f112_10 rfl (by decide +kernel) ?_
  refine zw_goto 15 f112_11 (by decide +kernel) ?_
  refine zw_zreturn f112_15 r112 u112 (by decide +kernel) ⟨_, rfl, ?_⟩
  refine zw_if_eq_f 10 32 f103_7 (by decide +kernel) rfl (by decide +kernel) ?_
  refine zw_iload_n 11 f103_10 rfl rfl ?_
  refine zw_bipush (-100) 13 f103_11 rfl (by decide +kernel) ?_
  refine zw_bipush 100 15 f103_13 rfl (by decide +kernel) ?_
  refine zw_static_i 18 0 0 [.int b, .int (-100), .int 100] [] [(0, .int b), (1, .int (-100)), (2, .int 100)] f103_15 rfl k103_74_99 rfl (by decide +kernel) (Nat.le_of_ble_eq_true rfl) (Nat.le_of_ble_eq_true rfl) rfl rfl (by decide +kernel) (by decide +kernel) rfl (Nat.le_of_ble_eq_true rfl) rfl ?_
  refine zw_iload_n 1 f112_0 rfl rfl ?_
  refine zw_iload_n 2 f112_1 rfl rfl ?_
  refine zw_ic_lt_f 5 14 f112_2 (by decide +kernel) rfl h1 ?_
  refine zw_iload_n 6 f112_5 rfl rfl ?_
  refine zw_iload_n 7 f112_6 rfl rfl ?_
  refine zw_ic_gt_f 10 14 f112_7 (by decide +kernel) rfl h2 ?_
  refine zw_iconst 1 11 f112_10 rfl (by decide +kernel) ?_
  refine zw_goto 15 f112_11 (by decide +kernel) ?_
  refine zw_zreturn f112_15 r112 u112 (by decide +kernel) ⟨_, rfl, ?_⟩
  refine zw_if_eq_f 21 32 f103_18 (by decide +kernel) rfl (by decide +kernel) ?_
  refine zw_iload_n 22 f103_21 rfl rfl ?_
  refine zw_bipush (-100) 24 f103_22 rfl (by decide +kernel) ?_
  refine zw_bipush 100 26 f103_24 rfl (by decide +kernel) ?_
  refine zw_static_i 29 0 0 [.int c, .int (-100), .int 100] [] [(0, .int c), (1, .int (-100)), (2, .int 100)] f103_26 rfl k103_74_99 rfl (by decide +kernel) (Nat.le_of_ble_eq_true rfl) (Nat.le_of_ble_eq_true rfl) rfl rfl (by decide +kernel) (by decide +kernel) rfl (Nat.le_of_ble_eq_true rfl) rfl ?_
  refine zw_iload_n 1 f112_0 rfl rfl ?_
  refine zw_iload_n 2 f112_1 rfl rfl ?_
  refine zw_ic_lt_f 5 14 f112_2 (by decide +kernel) rfl h3 ?_
  refine zw_iload_n 6 f112_5 rfl rfl ?_
  refine zw_iload_n 7 f112_6 rfl rfl ?_
  refine zw_ic_gt_f 10 14 f112_7 (by decide +kernel) rfl h4 ?_
  refine zw_iconst 1 11 f112_10 rfl (by decide +kernel) ?_
  refine zw_goto 15 f112_11 (by decide +kernel) ?_
  refine zw_zreturn f112_15 r112 u112 (by decide +kernel) ⟨_, rfl, ?_⟩
  refine zw_if_ne_t 38 f103_29 (by decide +kernel) (by decide +kernel) ?_
  refine zw_iload_n 39 f103_38 rfl rfl ?_
  refine zw_table_i (off := 72) 111 f103_39 (by decide +kernel) (by decide +kernel) (by decide +kernel) ?_
  refine zw_aload_n 112 f103_111 rfl rfl ?_
  refine zw_getfield 115 f103_112 rfl g103_10_11 rfl rfl ?_
  refine zw_iload_n 116 f103_115 rfl rfl ?_
  refine zw_virtual_i 119 0 0 [.ref 1, .int b] [(0, .ref 1), (1, .int b)] f103_116 rfl n103_89 k103_89_4 rfl rfl (by decide +kernel) (Nat.le_of_ble_eq_true rfl) rfl rfl (by decide +kernel) (by decide +kernel) rfl (Nat.le_of_ble_eq_true rfl) rfl ?_
  refine zw_iload_n 1 f13_0 rfl rfl ?_
  refine zw_if_lt 4 22 f13_1 (by decide +kernel) rfl (fun hc1 => ?_) (fun hc1 => ?_)
  · refine zw_iconst 0 23 f13_22 rfl (by decide +kernel) ?_
    refine zw_zreturn f13_23 r13 u13 (by decide +kernel) ⟨_, rfl, ?_⟩
    refine zw_if_eq_t 138 f103_119 (by decide +kernel) (by decide +kernel) ?_
    refine zw_aload_n 139 f103_138 rfl rfl ?_
    refine zw_bipush 12 141 f103_139 rfl (by decide +kernel) ?_
    refine zw_virtual_i 144 0 0 [.ref 0, .int 12] [(0, .ref 0), (1, .int 12)] f103_141 rfl n103_78 k103_78_11 rfl rfl (by decide +kernel) (Nat.le_of_ble_eq_true rfl) rfl rfl (by decide +kernel) (by decide +kernel) rfl (Nat.le_of_ble_eq_true rfl) rfl ?_
    refine zw_aload_n 1 f105_0 rfl rfl ?_
    refine zw_iload_n 2 f105_1 rfl rfl ?_
    refine zw_putfield 5 f105_2 rfl g105_70_11 rfl rfl (Nat.le_of_ble_eq_true rfl) (by decide +kernel) ?_
    refine zw_iconst (-1) 6 f105_5 rfl (by decide +kernel) ?_
    refine zw_ireturn f105_6 r105 u105 ⟨_, rfl, ?_⟩
    refine zw_ireturn f103_144 r103 u103 ?_
    exact ⟨rfl, by repeat (first | exact zMF_0 | refine zMF_set (by decide) ?_)⟩
  · refine zw_iload_n 5 f13_4 rfl rfl ?_
    refine zw_aload_n 6 f13_5 rfl rfl ?_
    refine zw_getfield 9 f13_6 rfl g13_39_4 rfl rfl ?_
    refine zw_ic_ge_t 22 f13_9 (by decide +kernel) (Int32.not_lt.mp hc1) ?_
    refine zw_iconst 0 23 f13_22 rfl (by decide +kernel) ?_
    refine zw_zreturn f13_23 r13 u13 (by decide +kernel) ⟨_, rfl, ?_⟩
    refine zw_if_eq_t 138 f103_119 (by decide +kernel) (by decide +kernel) ?_
    refine zw_aload_n 139 f103_138 rfl rfl ?_
    refine zw_bipush 12 141 f103_139 rfl (by decide +kernel) ?_
    refine zw_virtual_i 144 0 0 [.ref 0, .int 12] [(0, .ref 0), (1, .int 12)] f103_141 rfl n103_78 k103_78_11 rfl rfl (by decide +kernel) (Nat.le_of_ble_eq_true rfl) rfl rfl (by decide +kernel) (by decide +kernel) rfl (Nat.le_of_ble_eq_true rfl) rfl ?_
    refine zw_aload_n 1 f105_0 rfl rfl ?_
    refine zw_iload_n 2 f105_1 rfl rfl ?_
    refine zw_putfield 5 f105_2 rfl g105_70_11 rfl rfl (Nat.le_of_ble_eq_true rfl) (by decide +kernel) ?_
    refine zw_iconst (-1) 6 f105_5 rfl (by decide +kernel) ?_
    refine zw_ireturn f105_6 r105 u105 ⟨_, rfl, ?_⟩
    refine zw_ireturn f103_144 r103 u103 ?_
    exact ⟨rfl, by repeat (first | exact zMF_0 | refine zMF_set (by decide) ?_)⟩
set_option maxRecDepth 100000 in
set_option maxHeartbeats 0 in
theorem x_forge_w3a (ro : UInt32 → Nat × (Nat → Int32)) : zWp ro 103 0 [(0, .ref 0), (1, .int 3), (2, .int 0), (3, .int 0)] [] hF 0 0 (fun r h1 => r = some (.int 0) ∧ zMF h1) := by
  refine zw_iload_n 1 f103_0 rfl rfl ?_
  refine zw_iconst 0 2 f103_1 rfl (by decide +kernel) ?_
  refine zw_bipush 6 4 f103_2 rfl (by decide +kernel) ?_
  refine zw_static_i 7 0 0 [.int 3, .int 0, .int 6] [] [(0, .int 3), (1, .int 0), (2, .int 6)] f103_4 rfl k103_74_99 rfl (by decide +kernel) (Nat.le_of_ble_eq_true rfl) (Nat.le_of_ble_eq_true rfl) rfl rfl (by decide +kernel) (by decide +kernel) rfl (Nat.le_of_ble_eq_true rfl) rfl ?_
  refine zw_iload_n 1 f112_0 rfl rfl ?_
  refine zw_iload_n 2 f112_1 rfl rfl ?_
  refine zw_ic_lt_f 5 14 f112_2 (by decide +kernel) rfl (by decide +kernel) ?_
  refine zw_iload_n 6 f112_5 rfl rfl ?_
  refine zw_iload_n 7 f112_6 rfl rfl ?_
  refine zw_ic_gt_f 10 14 f112_7 (by decide +kernel) rfl (by decide +kernel) ?_
  refine zw_iconst 1 11 f112_10 rfl (by decide +kernel) ?_
  refine zw_goto 15 f112_11 (by decide +kernel) ?_
  refine zw_zreturn f112_15 r112 u112 (by decide +kernel) ⟨_, rfl, ?_⟩
  refine zw_if_eq_f 10 32 f103_7 (by decide +kernel) rfl (by decide +kernel) ?_
  refine zw_iload_n 11 f103_10 rfl rfl ?_
  refine zw_bipush (-100) 13 f103_11 rfl (by decide +kernel) ?_
  refine zw_bipush 100 15 f103_13 rfl (by decide +kernel) ?_
  refine zw_static_i 18 0 0 [.int 0, .int (-100), .int 100] [] [(0, .int 0), (1, .int (-100)), (2, .int 100)] f103_15 rfl k103_74_99 rfl (by decide +kernel) (Nat.le_of_ble_eq_true rfl) (Nat.le_of_ble_eq_true rfl) rfl rfl (by decide +kernel) (by decide +kernel) rfl (Nat.le_of_ble_eq_true rfl) rfl ?_
  refine zw_iload_n 1 f112_0 rfl rfl ?_
  refine zw_iload_n 2 f112_1 rfl rfl ?_
  refine zw_ic_lt_f 5 14 f112_2 (by decide +kernel) rfl (by decide +kernel) ?_
  refine zw_iload_n 6 f112_5 rfl rfl ?_
  refine zw_iload_n 7 f112_6 rfl rfl ?_
  refine zw_ic_gt_f 10 14 f112_7 (by decide +kernel) rfl (by decide +kernel) ?_
  refine zw_iconst 1 11 f112_10 rfl (by decide +kernel) ?_
  refine zw_goto 15 f112_11 (by decide +kernel) ?_
  refine zw_zreturn f112_15 r112 u112 (by decide +kernel) ⟨_, rfl, ?_⟩
  refine zw_if_eq_f 21 32 f103_18 (by decide +kernel) rfl (by decide +kernel) ?_
  refine zw_iload_n 22 f103_21 rfl rfl ?_
  refine zw_bipush (-100) 24 f103_22 rfl (by decide +kernel) ?_
  refine zw_bipush 100 26 f103_24 rfl (by decide +kernel) ?_
  refine zw_static_i 29 0 0 [.int 0, .int (-100), .int 100] [] [(0, .int 0), (1, .int (-100)), (2, .int 100)] f103_26 rfl k103_74_99 rfl (by decide +kernel) (Nat.le_of_ble_eq_true rfl) (Nat.le_of_ble_eq_true rfl) rfl rfl (by decide +kernel) (by decide +kernel) rfl (Nat.le_of_ble_eq_true rfl) rfl ?_
  refine zw_iload_n 1 f112_0 rfl rfl ?_
  refine zw_iload_n 2 f112_1 rfl rfl ?_
  refine zw_ic_lt_f 5 14 f112_2 (by decide +kernel) rfl (by decide +kernel) ?_
  refine zw_iload_n 6 f112_5 rfl rfl ?_
  refine zw_iload_n 7 f112_6 rfl rfl ?_
  refine zw_ic_gt_f 10 14 f112_7 (by decide +kernel) rfl (by decide +kernel) ?_
  refine zw_iconst 1 11 f112_10 rfl (by decide +kernel) ?_
  refine zw_goto 15 f112_11 (by decide +kernel) ?_
  refine zw_zreturn f112_15 r112 u112 (by decide +kernel) ⟨_, rfl, ?_⟩
  refine zw_if_ne_t 38 f103_29 (by decide +kernel) (by decide +kernel) ?_
  refine zw_iload_n 39 f103_38 rfl rfl ?_
  refine zw_table_i (off := 106) 145 f103_39 (by decide +kernel) (by decide +kernel) (by decide +kernel) ?_
  refine zw_aload_n 146 f103_145 rfl rfl ?_
  refine zw_iload_n 147 f103_146 rfl rfl ?_
  refine zw_iload_n 148 f103_147 rfl rfl ?_
  refine zw_virtual_i 151 0 0 [.ref 0, .int 0, .int 0] [(0, .ref 0), (1, .int 0), (2, .int 0)] f103_148 rfl n103_312 k103_312_11 rfl rfl (by decide +kernel) (Nat.le_of_ble_eq_true rfl) rfl rfl (by decide +kernel) (by decide +kernel) rfl (Nat.le_of_ble_eq_true rfl) rfl ?_
  refine zw_iload_n 1 f110_0 rfl rfl ?_
  refine zw_if_lt_f 4 27 f110_1 (by decide +kernel) rfl (by decide +kernel) ?_
  refine zw_iload_n 5 f110_4 rfl rfl ?_
  refine zw_if_lt_f 8 27 f110_5 (by decide +kernel) rfl (by decide +kernel) ?_
  refine zw_iload_n 9 f110_8 rfl rfl ?_
  refine zw_bipush 6 11 f110_9 rfl (by decide +kernel) ?_
  refine zw_ic_gt_f 14 27 f110_11 (by decide +kernel) rfl (by decide +kernel) ?_
  refine zw_iload_n 15 f110_14 rfl rfl ?_
  refine zw_iload_n 16 f110_15 rfl rfl ?_
  refine zw_iadd 0 17 f110_16 rfl (by decide +kernel) ?_
  refine zw_aload_n 18 f110_17 rfl rfl ?_
  refine zw_getfield 21 f110_18 rfl g110_10_11 rfl rfl ?_
  refine zw_getfield 24 f110_21 rfl g110_250_4 rfl rfl ?_
  refine zw_ic_le_t 34 f110_24 (by decide +kernel) (by decide +kernel) ?_
  refine zw_iconst 0 35 f110_34 rfl (by decide +kernel) ?_
  refine zw_istore_n [(3, .int 0), (0, .ref 0), (1, .int 0), (2, .int 0)] 36 f110_35 rfl (by decide +kernel) rfl ?_
  refine zw_iconst 0 37 f110_36 rfl (by decide +kernel) ?_
  refine zw_istore [(4, .int 0), (3, .int 0), (0, .ref 0), (1, .int 0), (2, .int 0)] 39 f110_37 rfl (by decide +kernel) rfl ?_
  refine zw_iload 41 f110_39 rfl rfl ?_
  refine zw_iload_n 42 f110_41 rfl rfl ?_
  refine zw_ic_ge_t 65 f110_42 (by decide +kernel) (by decide +kernel) ?_
  refine zw_aload_n 66 f110_65 rfl rfl ?_
  refine zw_iload_n 67 f110_66 rfl rfl ?_
  refine zw_virtual_i 70 0 0 [.ref 0, .int 0] [(0, .ref 0), (1, .int 0)] f110_67 rfl n110_181 k110_181_11 rfl rfl (by decide +kernel) (Nat.le_of_ble_eq_true rfl) rfl rfl (by decide +kernel) (by decide +kernel) rfl (Nat.le_of_ble_eq_true rfl) rfl ?_
  refine zw_aload_n 1 f106_0 rfl rfl ?_
  refine zw_iconst 0 2 f106_1 rfl (by decide +kernel) ?_
  refine zw_putfieldS 5 f106_2 rfl g106_70_11 rfl rfl rfl (by decide +kernel) ?_
  refine zw_iload_n 6 f106_5 rfl rfl ?_
  refine zw_ireturn f106_6 r106 u106 ⟨_, rfl, ?_⟩
  refine zw_ireturn f110_70 r110 u110 ⟨_, rfl, ?_⟩
  refine zw_ireturn f103_151 r103 u103 ?_
  exact ⟨rfl, by repeat (first | exact zMF_0 | refine zMF_set (by decide) ?_)⟩
set_option maxRecDepth 100000 in
set_option maxHeartbeats 0 in
theorem x_forge_w3b (ro : UInt32 → Nat × (Nat → Int32)) (b c : Int32) (h1 : ¬ b < -100) (h2 : ¬ 100 < b) (h3 : ¬ c < -100) (h4 : ¬ 100 < c) (h5 : b < 0) : zWp ro 103 0 [(0, .ref 0), (1, .int 3), (2, .int b), (3, .int c)] [] hF 0 0 (fun r h1 => r = some (.int (-1)) ∧ zMF h1) := by
  refine zw_iload_n 1 f103_0 rfl rfl ?_
  refine zw_iconst 0 2 f103_1 rfl (by decide +kernel) ?_
  refine zw_bipush 6 4 f103_2 rfl (by decide +kernel) ?_
  refine zw_static_i 7 0 0 [.int 3, .int 0, .int 6] [] [(0, .int 3), (1, .int 0), (2, .int 6)] f103_4 rfl k103_74_99 rfl (by decide +kernel) (Nat.le_of_ble_eq_true rfl) (Nat.le_of_ble_eq_true rfl) rfl rfl (by decide +kernel) (by decide +kernel) rfl (Nat.le_of_ble_eq_true rfl) rfl ?_
  refine zw_iload_n 1 f112_0 rfl rfl ?_
  refine zw_iload_n 2 f112_1 rfl rfl ?_
  refine zw_ic_lt_f 5 14 f112_2 (by decide +kernel) rfl (by decide +kernel) ?_
  refine zw_iload_n 6 f112_5 rfl rfl ?_
  refine zw_iload_n 7 f112_6 rfl rfl ?_
  refine zw_ic_gt_f 10 14 f112_7 (by decide +kernel) rfl (by decide +kernel) ?_
  refine zw_iconst 1 11 f112_10 rfl (by decide +kernel) ?_
  refine zw_goto 15 f112_11 (by decide +kernel) ?_
  refine zw_zreturn f112_15 r112 u112 (by decide +kernel) ⟨_, rfl, ?_⟩
  refine zw_if_eq_f 10 32 f103_7 (by decide +kernel) rfl (by decide +kernel) ?_
  refine zw_iload_n 11 f103_10 rfl rfl ?_
  refine zw_bipush (-100) 13 f103_11 rfl (by decide +kernel) ?_
  refine zw_bipush 100 15 f103_13 rfl (by decide +kernel) ?_
  refine zw_static_i 18 0 0 [.int b, .int (-100), .int 100] [] [(0, .int b), (1, .int (-100)), (2, .int 100)] f103_15 rfl k103_74_99 rfl (by decide +kernel) (Nat.le_of_ble_eq_true rfl) (Nat.le_of_ble_eq_true rfl) rfl rfl (by decide +kernel) (by decide +kernel) rfl (Nat.le_of_ble_eq_true rfl) rfl ?_
  refine zw_iload_n 1 f112_0 rfl rfl ?_
  refine zw_iload_n 2 f112_1 rfl rfl ?_
  refine zw_ic_lt_f 5 14 f112_2 (by decide +kernel) rfl h1 ?_
  refine zw_iload_n 6 f112_5 rfl rfl ?_
  refine zw_iload_n 7 f112_6 rfl rfl ?_
  refine zw_ic_gt_f 10 14 f112_7 (by decide +kernel) rfl h2 ?_
  refine zw_iconst 1 11 f112_10 rfl (by decide +kernel) ?_
  refine zw_goto 15 f112_11 (by decide +kernel) ?_
  refine zw_zreturn f112_15 r112 u112 (by decide +kernel) ⟨_, rfl, ?_⟩
  refine zw_if_eq_f 21 32 f103_18 (by decide +kernel) rfl (by decide +kernel) ?_
  refine zw_iload_n 22 f103_21 rfl rfl ?_
  refine zw_bipush (-100) 24 f103_22 rfl (by decide +kernel) ?_
  refine zw_bipush 100 26 f103_24 rfl (by decide +kernel) ?_
  refine zw_static_i 29 0 0 [.int c, .int (-100), .int 100] [] [(0, .int c), (1, .int (-100)), (2, .int 100)] f103_26 rfl k103_74_99 rfl (by decide +kernel) (Nat.le_of_ble_eq_true rfl) (Nat.le_of_ble_eq_true rfl) rfl rfl (by decide +kernel) (by decide +kernel) rfl (Nat.le_of_ble_eq_true rfl) rfl ?_
  refine zw_iload_n 1 f112_0 rfl rfl ?_
  refine zw_iload_n 2 f112_1 rfl rfl ?_
  refine zw_ic_lt_f 5 14 f112_2 (by decide +kernel) rfl h3 ?_
  refine zw_iload_n 6 f112_5 rfl rfl ?_
  refine zw_iload_n 7 f112_6 rfl rfl ?_
  refine zw_ic_gt_f 10 14 f112_7 (by decide +kernel) rfl h4 ?_
  refine zw_iconst 1 11 f112_10 rfl (by decide +kernel) ?_
  refine zw_goto 15 f112_11 (by decide +kernel) ?_
  refine zw_zreturn f112_15 r112 u112 (by decide +kernel) ⟨_, rfl, ?_⟩
  refine zw_if_ne_t 38 f103_29 (by decide +kernel) (by decide +kernel) ?_
  refine zw_iload_n 39 f103_38 rfl rfl ?_
  refine zw_table_i (off := 106) 145 f103_39 (by decide +kernel) (by decide +kernel) (by decide +kernel) ?_
  refine zw_aload_n 146 f103_145 rfl rfl ?_
  refine zw_iload_n 147 f103_146 rfl rfl ?_
  refine zw_iload_n 148 f103_147 rfl rfl ?_
  refine zw_virtual_i 151 0 0 [.ref 0, .int b, .int c] [(0, .ref 0), (1, .int b), (2, .int c)] f103_148 rfl n103_312 k103_312_11 rfl rfl (by decide +kernel) (Nat.le_of_ble_eq_true rfl) rfl rfl (by decide +kernel) (by decide +kernel) rfl (Nat.le_of_ble_eq_true rfl) rfl ?_
  refine zw_iload_n 1 f110_0 rfl rfl ?_
  refine zw_if_lt_t 27 f110_1 (by decide +kernel) h5 ?_
  refine zw_aload_n 28 f110_27 rfl rfl ?_
  refine zw_bipush 12 30 f110_28 rfl (by decide +kernel) ?_
  refine zw_virtual_i 33 0 0 [.ref 0, .int 12] [(0, .ref 0), (1, .int 12)] f110_30 rfl n110_78 k110_78_11 rfl rfl (by decide +kernel) (Nat.le_of_ble_eq_true rfl) rfl rfl (by decide +kernel) (by decide +kernel) rfl (Nat.le_of_ble_eq_true rfl) rfl ?_
  refine zw_aload_n 1 f105_0 rfl rfl ?_
  refine zw_iload_n 2 f105_1 rfl rfl ?_
  refine zw_putfield 5 f105_2 rfl g105_70_11 rfl rfl (Nat.le_of_ble_eq_true rfl) (by decide +kernel) ?_
  refine zw_iconst (-1) 6 f105_5 rfl (by decide +kernel) ?_
  refine zw_ireturn f105_6 r105 u105 ⟨_, rfl, ?_⟩
  refine zw_ireturn f110_33 r110 u110 ⟨_, rfl, ?_⟩
  refine zw_ireturn f103_151 r103 u103 ?_
  exact ⟨rfl, by repeat (first | exact zMF_0 | refine zMF_set (by decide) ?_)⟩
set_option maxRecDepth 100000 in
set_option maxHeartbeats 0 in
theorem x_forge_w3c (ro : UInt32 → Nat × (Nat → Int32)) (b c : Int32) (h1 : ¬ b < -100) (h2 : ¬ 100 < b) (h3 : ¬ c < -100) (h4 : ¬ 100 < c) (h5 : ¬ b < 0) (h6 : c < 0) : zWp ro 103 0 [(0, .ref 0), (1, .int 3), (2, .int b), (3, .int c)] [] hF 0 0 (fun r h1 => r = some (.int (-1)) ∧ zMF h1) := by
  refine zw_iload_n 1 f103_0 rfl rfl ?_
  refine zw_iconst 0 2 f103_1 rfl (by decide +kernel) ?_
  refine zw_bipush 6 4 f103_2 rfl (by decide +kernel) ?_
  refine zw_static_i 7 0 0 [.int 3, .int 0, .int 6] [] [(0, .int 3), (1, .int 0), (2, .int 6)] f103_4 rfl k103_74_99 rfl (by decide +kernel) (Nat.le_of_ble_eq_true rfl) (Nat.le_of_ble_eq_true rfl) rfl rfl (by decide +kernel) (by decide +kernel) rfl (Nat.le_of_ble_eq_true rfl) rfl ?_
  refine zw_iload_n 1 f112_0 rfl rfl ?_
  refine zw_iload_n 2 f112_1 rfl rfl ?_
  refine zw_ic_lt_f 5 14 f112_2 (by decide +kernel) rfl (by decide +kernel) ?_
  refine zw_iload_n 6 f112_5 rfl rfl ?_
  refine zw_iload_n 7 f112_6 rfl rfl ?_
  refine zw_ic_gt_f 10 14 f112_7 (by decide +kernel) rfl (by decide +kernel) ?_
  refine zw_iconst 1 11 f112_10 rfl (by decide +kernel) ?_
  refine zw_goto 15 f112_11 (by decide +kernel) ?_
  refine zw_zreturn f112_15 r112 u112 (by decide +kernel) ⟨_, rfl, ?_⟩
  refine zw_if_eq_f 10 32 f103_7 (by decide +kernel) rfl (by decide +kernel) ?_
  refine zw_iload_n 11 f103_10 rfl rfl ?_
  refine zw_bipush (-100) 13 f103_11 rfl (by decide +kernel) ?_
  refine zw_bipush 100 15 f103_13 rfl (by decide +kernel) ?_
  refine zw_static_i 18 0 0 [.int b, .int (-100), .int 100] [] [(0, .int b), (1, .int (-100)), (2, .int 100)] f103_15 rfl k103_74_99 rfl (by decide +kernel) (Nat.le_of_ble_eq_true rfl) (Nat.le_of_ble_eq_true rfl) rfl rfl (by decide +kernel) (by decide +kernel) rfl (Nat.le_of_ble_eq_true rfl) rfl ?_
  refine zw_iload_n 1 f112_0 rfl rfl ?_
  refine zw_iload_n 2 f112_1 rfl rfl ?_
  refine zw_ic_lt_f 5 14 f112_2 (by decide +kernel) rfl h1 ?_
  refine zw_iload_n 6 f112_5 rfl rfl ?_
  refine zw_iload_n 7 f112_6 rfl rfl ?_
  refine zw_ic_gt_f 10 14 f112_7 (by decide +kernel) rfl h2 ?_
  refine zw_iconst 1 11 f112_10 rfl (by decide +kernel) ?_
  refine zw_goto 15 f112_11 (by decide +kernel) ?_
  refine zw_zreturn f112_15 r112 u112 (by decide +kernel) ⟨_, rfl, ?_⟩
  refine zw_if_eq_f 21 32 f103_18 (by decide +kernel) rfl (by decide +kernel) ?_
  refine zw_iload_n 22 f103_21 rfl rfl ?_
  refine zw_bipush (-100) 24 f103_22 rfl (by decide +kernel) ?_
  refine zw_bipush 100 26 f103_24 rfl (by decide +kernel) ?_
  refine zw_static_i 29 0 0 [.int c, .int (-100), .int 100] [] [(0, .int c), (1, .int (-100)), (2, .int 100)] f103_26 rfl k103_74_99 rfl (by decide +kernel) (Nat.le_of_ble_eq_true rfl) (Nat.le_of_ble_eq_true rfl) rfl rfl (by decide +kernel) (by decide +kernel) rfl (Nat.le_of_ble_eq_true rfl) rfl ?_
  refine zw_iload_n 1 f112_0 rfl rfl ?_
  refine zw_iload_n 2 f112_1 rfl rfl ?_
  refine zw_ic_lt_f 5 14 f112_2 (by decide +kernel) rfl h3 ?_
  refine zw_iload_n 6 f112_5 rfl rfl ?_
  refine zw_iload_n 7 f112_6 rfl rfl ?_
  refine zw_ic_gt_f 10 14 f112_7 (by decide +kernel) rfl h4 ?_
  refine zw_iconst 1 11 f112_10 rfl (by decide +kernel) ?_
  refine zw_goto 15 f112_11 (by decide +kernel) ?_
  refine zw_zreturn f112_15 r112 u112 (by decide +kernel) ⟨_, rfl, ?_⟩
  refine zw_if_ne_t 38 f103_29 (by decide +kernel) (by decide +kernel) ?_
  refine zw_iload_n 39 f103_38 rfl rfl ?_
  refine zw_table_i (off := 106) 145 f103_39 (by decide +kernel) (by decide +kernel) (by decide +kernel) ?_
  refine zw_aload_n 146 f103_145 rfl rfl ?_
  refine zw_iload_n 147 f103_146 rfl rfl ?_
  refine zw_iload_n 148 f103_147 rfl rfl ?_
  refine zw_virtual_i 151 0 0 [.ref 0, .int b, .int c] [(0, .ref 0), (1, .int b), (2, .int c)] f103_148 rfl n103_312 k103_312_11 rfl rfl (by decide +kernel) (Nat.le_of_ble_eq_true rfl) rfl rfl (by decide +kernel) (by decide +kernel) rfl (Nat.le_of_ble_eq_true rfl) rfl ?_
  refine zw_iload_n 1 f110_0 rfl rfl ?_
  refine zw_if_lt_f 4 27 f110_1 (by decide +kernel) rfl h5 ?_
  refine zw_iload_n 5 f110_4 rfl rfl ?_
  refine zw_if_lt_t 27 f110_5 (by decide +kernel) h6 ?_
  refine zw_aload_n 28 f110_27 rfl rfl ?_
  refine zw_bipush 12 30 f110_28 rfl (by decide +kernel) ?_
  refine zw_virtual_i 33 0 0 [.ref 0, .int 12] [(0, .ref 0), (1, .int 12)] f110_30 rfl n110_78 k110_78_11 rfl rfl (by decide +kernel) (Nat.le_of_ble_eq_true rfl) rfl rfl (by decide +kernel) (by decide +kernel) rfl (Nat.le_of_ble_eq_true rfl) rfl ?_
  refine zw_aload_n 1 f105_0 rfl rfl ?_
  refine zw_iload_n 2 f105_1 rfl rfl ?_
  refine zw_putfield 5 f105_2 rfl g105_70_11 rfl rfl (Nat.le_of_ble_eq_true rfl) (by decide +kernel) ?_
  refine zw_iconst (-1) 6 f105_5 rfl (by decide +kernel) ?_
  refine zw_ireturn f105_6 r105 u105 ⟨_, rfl, ?_⟩
  refine zw_ireturn f110_33 r110 u110 ⟨_, rfl, ?_⟩
  refine zw_ireturn f103_151 r103 u103 ?_
  exact ⟨rfl, by repeat (first | exact zMF_0 | refine zMF_set (by decide) ?_)⟩
set_option maxRecDepth 100000 in
set_option maxHeartbeats 0 in
theorem x_forge_w3d (ro : UInt32 → Nat × (Nat → Int32)) (b c : Int32) (h1 : ¬ b < -100) (h2 : ¬ 100 < b) (h3 : ¬ c < -100) (h4 : ¬ 100 < c) (h5 : ¬ b < 0) (h6 : ¬ c < 0) (h7 : 6 < b) : zWp ro 103 0 [(0, .ref 0), (1, .int 3), (2, .int b), (3, .int c)] [] hF 0 0 (fun r h1 => r = some (.int (-1)) ∧ zMF h1) := by
  refine zw_iload_n 1 f103_0 rfl rfl ?_
  refine zw_iconst 0 2 f103_1 rfl (by decide +kernel) ?_
  refine zw_bipush 6 4 f103_2 rfl (by decide +kernel) ?_
  refine zw_static_i 7 0 0 [.int 3, .int 0, .int 6] [] [(0, .int 3), (1, .int 0), (2, .int 6)] f103_4 rfl k103_74_99 rfl (by decide +kernel) (Nat.le_of_ble_eq_true rfl) (Nat.le_of_ble_eq_true rfl) rfl rfl (by decide +kernel) (by decide +kernel) rfl (Nat.le_of_ble_eq_true rfl) rfl ?_
  refine zw_iload_n 1 f112_0 rfl rfl ?_
  refine zw_iload_n 2 f112_1 rfl rfl ?_
  refine zw_ic_lt_f 5 14 f112_2 (by decide +kernel) rfl (by decide +kernel) ?_
  refine zw_iload_n 6 f112_5 rfl rfl ?_
  refine zw_iload_n 7 f112_6 rfl rfl ?_
  refine zw_ic_gt_f 10 14 f112_7 (by decide +kernel) rfl (by decide +kernel) ?_
  refine zw_iconst 1 11 f112_10 rfl (by decide +kernel) ?_
  refine zw_goto 15 f112_11 (by decide +kernel) ?_
  refine zw_zreturn f112_15 r112 u112 (by decide +kernel) ⟨_, rfl, ?_⟩
  refine zw_if_eq_f 10 32 f103_7 (by decide +kernel) rfl (by decide +kernel) ?_
  refine zw_iload_n 11 f103_10 rfl rfl ?_
  refine zw_bipush (-100) 13 f103_11 rfl (by decide +kernel) ?_
  refine zw_bipush 100 15 f103_13 rfl (by decide +kernel) ?_
  refine zw_static_i 18 0 0 [.int b, .int (-100), .int 100] [] [(0, .int b), (1, .int (-100)), (2, .int 100)] f103_15 rfl k103_74_99 rfl (by decide +kernel) (Nat.le_of_ble_eq_true rfl) (Nat.le_of_ble_eq_true rfl) rfl rfl (by decide +kernel) (by decide +kernel) rfl (Nat.le_of_ble_eq_true rfl) rfl ?_
  refine zw_iload_n 1 f112_0 rfl rfl ?_
  refine zw_iload_n 2 f112_1 rfl rfl ?_
  refine zw_ic_lt_f 5 14 f112_2 (by decide +kernel) rfl h1 ?_
  refine zw_iload_n 6 f112_5 rfl rfl ?_
  refine zw_iload_n 7 f112_6 rfl rfl ?_
  refine zw_ic_gt_f 10 14 f112_7 (by decide +kernel) rfl h2 ?_
  refine zw_iconst 1 11 f112_10 rfl (by decide +kernel) ?_
  refine zw_goto 15 f112_11 (by decide +kernel) ?_
  refine zw_zreturn f112_15 r112 u112 (by decide +kernel) ⟨_, rfl, ?_⟩
  refine zw_if_eq_f 21 32 f103_18 (by decide +kernel) rfl (by decide +kernel) ?_
  refine zw_iload_n 22 f103_21 rfl rfl ?_
  refine zw_bipush (-100) 24 f103_22 rfl (by decide +kernel) ?_
  refine zw_bipush 100 26 f103_24 rfl (by decide +kernel) ?_
  refine zw_static_i 29 0 0 [.int c, .int (-100), .int 100] [] [(0, .int c), (1, .int (-100)), (2, .int 100)] f103_26 rfl k103_74_99 rfl (by decide +kernel) (Nat.le_of_ble_eq_true rfl) (Nat.le_of_ble_eq_true rfl) rfl rfl (by decide +kernel) (by decide +kernel) rfl (Nat.le_of_ble_eq_true rfl) rfl ?_
  refine zw_iload_n 1 f112_0 rfl rfl ?_
  refine zw_iload_n 2 f112_1 rfl rfl ?_
  refine zw_ic_lt_f 5 14 f112_2 (by decide +kernel) rfl h3 ?_
  refine zw_iload_n 6 f112_5 rfl rfl ?_
  refine zw_iload_n 7 f112_6 rfl rfl ?_
  refine zw_ic_gt_f 10 14 f112_7 (by decide +kernel) rfl h4 ?_
  refine zw_iconst 1 11 f112_10 rfl (by decide +kernel) ?_
  refine zw_goto 15 f112_11 (by decide +kernel) ?_
  refine zw_zreturn f112_15 r112 u112 (by decide +kernel) ⟨_, rfl, ?_⟩
  refine zw_if_ne_t 38 f103_29 (by decide +kernel) (by decide +kernel) ?_
  refine zw_iload_n 39 f103_38 rfl rfl ?_
  refine zw_table_i (off := 106) 145 f103_39 (by decide +kernel) (by decide +kernel) (by decide +kernel) ?_
  refine zw_aload_n 146 f103_145 rfl rfl ?_
  refine zw_iload_n 147 f103_146 rfl rfl ?_
  refine zw_iload_n 148 f103_147 rfl rfl ?_
  refine zw_virtual_i 151 0 0 [.ref 0, .int b, .int c] [(0, .ref 0), (1, .int b), (2, .int c)] f103_148 rfl n103_312 k103_312_11 rfl rfl (by decide +kernel) (Nat.le_of_ble_eq_true rfl) rfl rfl (by decide +kernel) (by decide +kernel) rfl (Nat.le_of_ble_eq_true rfl) rfl ?_
  refine zw_iload_n 1 f110_0 rfl rfl ?_
  refine zw_if_lt_f 4 27 f110_1 (by decide +kernel) rfl h5 ?_
  refine zw_iload_n 5 f110_4 rfl rfl ?_
  refine zw_if_lt_f 8 27 f110_5 (by decide +kernel) rfl h6 ?_
  refine zw_iload_n 9 f110_8 rfl rfl ?_
  refine zw_bipush 6 11 f110_9 rfl (by decide +kernel) ?_
  refine zw_ic_gt_t 27 f110_11 (by decide +kernel) h7 ?_
  refine zw_aload_n 28 f110_27 rfl rfl ?_
  refine zw_bipush 12 30 f110_28 rfl (by decide +kernel) ?_
  refine zw_virtual_i 33 0 0 [.ref 0, .int 12] [(0, .ref 0), (1, .int 12)] f110_30 rfl n110_78 k110_78_11 rfl rfl (by decide +kernel) (Nat.le_of_ble_eq_true rfl) rfl rfl (by decide +kernel) (by decide +kernel) rfl (Nat.le_of_ble_eq_true rfl) rfl ?_
  refine zw_aload_n 1 f105_0 rfl rfl ?_
  refine zw_iload_n 2 f105_1 rfl rfl ?_
  refine zw_putfield 5 f105_2 rfl g105_70_11 rfl rfl (Nat.le_of_ble_eq_true rfl) (by decide +kernel) ?_
  refine zw_iconst (-1) 6 f105_5 rfl (by decide +kernel) ?_
  refine zw_ireturn f105_6 r105 u105 ⟨_, rfl, ?_⟩
  refine zw_ireturn f110_33 r110 u110 ⟨_, rfl, ?_⟩
  refine zw_ireturn f103_151 r103 u103 ?_
  exact ⟨rfl, by repeat (first | exact zMF_0 | refine zMF_set (by decide) ?_)⟩
set_option maxRecDepth 100000 in
set_option maxHeartbeats 0 in
theorem x_forge_w3e (ro : UInt32 → Nat × (Nat → Int32)) (b c : Int32) (h1 : ¬ b < -100) (h2 : ¬ 100 < b) (h3 : ¬ c < -100) (h4 : ¬ 100 < c) (h5 : ¬ b < 0) (h6 : ¬ c < 0) (h7 : ¬ 6 < b) (h8 : 0 < c + b) : zWp ro 103 0 [(0, .ref 0), (1, .int 3), (2, .int b), (3, .int c)] [] hF 0 0 (fun r h1 => r = some (.int (-1)) ∧ zMF h1) := by
  refine zw_iload_n 1 f103_0 rfl rfl ?_
  refine zw_iconst 0 2 f103_1 rfl (by decide +kernel) ?_
  refine zw_bipush 6 4 f103_2 rfl (by decide +kernel) ?_
  refine zw_static_i 7 0 0 [.int 3, .int 0, .int 6] [] [(0, .int 3), (1, .int 0), (2, .int 6)] f103_4 rfl k103_74_99 rfl (by decide +kernel) (Nat.le_of_ble_eq_true rfl) (Nat.le_of_ble_eq_true rfl) rfl rfl (by decide +kernel) (by decide +kernel) rfl (Nat.le_of_ble_eq_true rfl) rfl ?_
  refine zw_iload_n 1 f112_0 rfl rfl ?_
  refine zw_iload_n 2 f112_1 rfl rfl ?_
  refine zw_ic_lt_f 5 14 f112_2 (by decide +kernel) rfl (by decide +kernel) ?_
  refine zw_iload_n 6 f112_5 rfl rfl ?_
  refine zw_iload_n 7 f112_6 rfl rfl ?_
  refine zw_ic_gt_f 10 14 f112_7 (by decide +kernel) rfl (by decide +kernel) ?_
  refine zw_iconst 1 11 f112_10 rfl (by decide +kernel) ?_
  refine zw_goto 15 f112_11 (by decide +kernel) ?_
  refine zw_zreturn f112_15 r112 u112 (by decide +kernel) ⟨_, rfl, ?_⟩
  refine zw_if_eq_f 10 32 f103_7 (by decide +kernel) rfl (by decide +kernel) ?_
  refine zw_iload_n 11 f103_10 rfl rfl ?_
  refine zw_bipush (-100) 13 f103_11 rfl (by decide +kernel) ?_
  refine zw_bipush 100 15 f103_13 rfl (by decide +kernel) ?_
  refine zw_static_i 18 0 0 [.int b, .int (-100), .int 100] [] [(0, .int b), (1, .int (-100)), (2, .int 100)] f103_15 rfl k103_74_99 rfl (by decide +kernel) (Nat.le_of_ble_eq_true rfl) (Nat.le_of_ble_eq_true rfl) rfl rfl (by decide +kernel) (by decide +kernel) rfl (Nat.le_of_ble_eq_true rfl) rfl ?_
  refine zw_iload_n 1 f112_0 rfl rfl ?_
  refine zw_iload_n 2 f112_1 rfl rfl ?_
  refine zw_ic_lt_f 5 14 f112_2 (by decide +kernel) rfl h1 ?_
  refine zw_iload_n 6 f112_5 rfl rfl ?_
  refine zw_iload_n 7 f112_6 rfl rfl ?_
  refine zw_ic_gt_f 10 14 f112_7 (by decide +kernel) rfl h2 ?_
  refine zw_iconst 1 11 f112_10 rfl (by decide +kernel) ?_
  refine zw_goto 15 f112_11 (by decide +kernel) ?_
  refine zw_zreturn f112_15 r112 u112 (by decide +kernel) ⟨_, rfl, ?_⟩
  refine zw_if_eq_f 21 32 f103_18 (by decide +kernel) rfl (by decide +kernel) ?_
  refine zw_iload_n 22 f103_21 rfl rfl ?_
  refine zw_bipush (-100) 24 f103_22 rfl (by decide +kernel) ?_
  refine zw_bipush 100 26 f103_24 rfl (by decide +kernel) ?_
  refine zw_static_i 29 0 0 [.int c, .int (-100), .int 100] [] [(0, .int c), (1, .int (-100)), (2, .int 100)] f103_26 rfl k103_74_99 rfl (by decide +kernel) (Nat.le_of_ble_eq_true rfl) (Nat.le_of_ble_eq_true rfl) rfl rfl (by decide +kernel) (by decide +kernel) rfl (Nat.le_of_ble_eq_true rfl) rfl ?_
  refine zw_iload_n 1 f112_0 rfl rfl ?_
  refine zw_iload_n 2 f112_1 rfl rfl ?_
  refine zw_ic_lt_f 5 14 f112_2 (by decide +kernel) rfl h3 ?_
  refine zw_iload_n 6 f112_5 rfl rfl ?_
  refine zw_iload_n 7 f112_6 rfl rfl ?_
  refine zw_ic_gt_f 10 14 f112_7 (by decide +kernel) rfl h4 ?_
  refine zw_iconst 1 11 f112_10 rfl (by decide +kernel) ?_
  refine zw_goto 15 f112_11 (by decide +kernel) ?_
  refine zw_zreturn f112_15 r112 u112 (by decide +kernel) ⟨_, rfl, ?_⟩
  refine zw_if_ne_t 38 f103_29 (by decide +kernel) (by decide +kernel) ?_
  refine zw_iload_n 39 f103_38 rfl rfl ?_
  refine zw_table_i (off := 106) 145 f103_39 (by decide +kernel) (by decide +kernel) (by decide +kernel) ?_
  refine zw_aload_n 146 f103_145 rfl rfl ?_
  refine zw_iload_n 147 f103_146 rfl rfl ?_
  refine zw_iload_n 148 f103_147 rfl rfl ?_
  refine zw_virtual_i 151 0 0 [.ref 0, .int b, .int c] [(0, .ref 0), (1, .int b), (2, .int c)] f103_148 rfl n103_312 k103_312_11 rfl rfl (by decide +kernel) (Nat.le_of_ble_eq_true rfl) rfl rfl (by decide +kernel) (by decide +kernel) rfl (Nat.le_of_ble_eq_true rfl) rfl ?_
  refine zw_iload_n 1 f110_0 rfl rfl ?_
  refine zw_if_lt_f 4 27 f110_1 (by decide +kernel) rfl h5 ?_
  refine zw_iload_n 5 f110_4 rfl rfl ?_
  refine zw_if_lt_f 8 27 f110_5 (by decide +kernel) rfl h6 ?_
  refine zw_iload_n 9 f110_8 rfl rfl ?_
  refine zw_bipush 6 11 f110_9 rfl (by decide +kernel) ?_
  refine zw_ic_gt_f 14 27 f110_11 (by decide +kernel) rfl h7 ?_
  refine zw_iload_n 15 f110_14 rfl rfl ?_
  refine zw_iload_n 16 f110_15 rfl rfl ?_
  refine zw_iadd (c + b) 17 f110_16 rfl rfl ?_
  refine zw_aload_n 18 f110_17 rfl rfl ?_
  refine zw_getfield 21 f110_18 rfl g110_10_11 rfl rfl ?_
  refine zw_getfield 24 f110_21 rfl g110_250_4 rfl rfl ?_
  refine zw_ic_le_f 27 34 f110_24 (by decide +kernel) rfl (Int32.not_le.mpr h8) ?_
  refine zw_aload_n 28 f110_27 rfl rfl ?_
  refine zw_bipush 12 30 f110_28 rfl (by decide +kernel) ?_
  refine zw_virtual_i 33 0 0 [.ref 0, .int 12] [(0, .ref 0), (1, .int 12)] f110_30 rfl n110_78 k110_78_11 rfl rfl (by decide +kernel) (Nat.le_of_ble_eq_true rfl) rfl rfl (by decide +kernel) (by decide +kernel) rfl (Nat.le_of_ble_eq_true rfl) rfl ?_
  refine zw_aload_n 1 f105_0 rfl rfl ?_
  refine zw_iload_n 2 f105_1 rfl rfl ?_
  refine zw_putfield 5 f105_2 rfl g105_70_11 rfl rfl (Nat.le_of_ble_eq_true rfl) (by decide +kernel) ?_
  refine zw_iconst (-1) 6 f105_5 rfl (by decide +kernel) ?_
  refine zw_ireturn f105_6 r105 u105 ⟨_, rfl, ?_⟩
  refine zw_ireturn f110_33 r110 u110 ⟨_, rfl, ?_⟩
  refine zw_ireturn f103_151 r103 u103 ?_
  exact ⟨rfl, by repeat (first | exact zMF_0 | refine zMF_set (by decide) ?_)⟩
set_option maxRecDepth 100000 in
set_option maxHeartbeats 0 in
theorem x_forge_w4 (ro : UInt32 → Nat × (Nat → Int32)) (b c : Int32) (h1 : ¬ b < -100) (h2 : ¬ 100 < b) (h3 : ¬ c < -100) (h4 : ¬ 100 < c) : zWp ro 103 0 [(0, .ref 0), (1, .int 4), (2, .int b), (3, .int c)] [] hF 0 0 (fun r h1 => r = some (.int 0) ∧ zMF h1) := by
  refine zw_iload_n 1 f103_0 rfl rfl ?_
  refine zw_iconst 0 2 f103_1 rfl (by decide +kernel) ?_
  refine zw_bipush 6 4 f103_2 rfl (by decide +kernel) ?_
  refine zw_static_i 7 0 0 [.int 4, .int 0, .int 6] [] [(0, .int 4), (1, .int 0), (2, .int 6)] f103_4 rfl k103_74_99 rfl (by decide +kernel) (Nat.le_of_ble_eq_true rfl) (Nat.le_of_ble_eq_true rfl) rfl rfl (by decide +kernel) (by decide +kernel) rfl (Nat.le_of_ble_eq_true rfl) rfl ?_
  refine zw_iload_n 1 f112_0 rfl rfl ?_
  refine zw_iload_n 2 f112_1 rfl rfl ?_
  refine zw_ic_lt_f 5 14 f112_2 (by decide +kernel) rfl (by decide +kernel) ?_
  refine zw_iload_n 6 f112_5 rfl rfl ?_
  refine zw_iload_n 7 f112_6 rfl rfl ?_
  refine zw_ic_gt_f 10 14 f112_7 (by decide +kernel) rfl (by decide +kernel) ?_
  refine zw_iconst 1 11 f112_10 rfl (by decide +kernel) ?_
  refine zw_goto 15 f112_11 (by decide +kernel) ?_
  refine zw_zreturn f112_15 r112 u112 (by decide +kernel) ⟨_, rfl, ?_⟩
  refine zw_if_eq_f 10 32 f103_7 (by decide +kernel) rfl (by decide +kernel) ?_
  refine zw_iload_n 11 f103_10 rfl rfl ?_
  refine zw_bipush (-100) 13 f103_11 rfl (by decide +kernel) ?_
  refine zw_bipush 100 15 f103_13 rfl (by decide +kernel) ?_
  refine zw_static_i 18 0 0 [.int b, .int (-100), .int 100] [] [(0, .int b), (1, .int (-100)), (2, .int 100)] f103_15 rfl k103_74_99 rfl (by decide +kernel) (Nat.le_of_ble_eq_true rfl) (Nat.le_of_ble_eq_true rfl) rfl rfl (by decide +kernel) (by decide +kernel) rfl (Nat.le_of_ble_eq_true rfl) rfl ?_
  refine zw_iload_n 1 f112_0 rfl rfl ?_
  refine zw_iload_n 2 f112_1 rfl rfl ?_
  refine zw_ic_lt_f 5 14 f112_2 (by decide +kernel) rfl h1 ?_
  refine zw_iload_n 6 f112_5 rfl rfl ?_
  refine zw_iload_n 7 f112_6 rfl rfl ?_
  refine zw_ic_gt_f 10 14 f112_7 (by decide +kernel) rfl h2 ?_
  refine zw_iconst 1 11 f112_10 rfl (by decide +kernel) ?_
  refine zw_goto 15 f112_11 (by decide +kernel) ?_
  refine zw_zreturn f112_15 r112 u112 (by decide +kernel) ⟨_, rfl, ?_⟩
  refine zw_if_eq_f 21 32 f103_18 (by decide +kernel) rfl (by decide +kernel) ?_
  refine zw_iload_n 22 f103_21 rfl rfl ?_
  refine zw_bipush (-100) 24 f103_22 rfl (by decide +kernel) ?_
  refine zw_bipush 100 26 f103_24 rfl (by decide +kernel) ?_
  refine zw_static_i 29 0 0 [.int c, .int (-100), .int 100] [] [(0, .int c), (1, .int (-100)), (2, .int 100)] f103_26 rfl k103_74_99 rfl (by decide +kernel) (Nat.le_of_ble_eq_true rfl) (Nat.le_of_ble_eq_true rfl) rfl rfl (by decide +kernel) (by decide +kernel) rfl (Nat.le_of_ble_eq_true rfl) rfl ?_
  refine zw_iload_n 1 f112_0 rfl rfl ?_
  refine zw_iload_n 2 f112_1 rfl rfl ?_
  refine zw_ic_lt_f 5 14 f112_2 (by decide +kernel) rfl h3 ?_
  refine zw_iload_n 6 f112_5 rfl rfl ?_
  refine zw_iload_n 7 f112_6 rfl rfl ?_
  refine zw_ic_gt_f 10 14 f112_7 (by decide +kernel) rfl h4 ?_
  refine zw_iconst 1 11 f112_10 rfl (by decide +kernel) ?_
  refine zw_goto 15 f112_11 (by decide +kernel) ?_
  refine zw_zreturn f112_15 r112 u112 (by decide +kernel) ⟨_, rfl, ?_⟩
  refine zw_if_ne_t 38 f103_29 (by decide +kernel) (by decide +kernel) ?_
  refine zw_iload_n 39 f103_38 rfl rfl ?_
  refine zw_table_i (off := 113) 152 f103_39 (by decide +kernel) (by decide +kernel) (by decide +kernel) ?_
  refine zw_aload_n 153 f103_152 rfl rfl ?_
  refine zw_iload_n 154 f103_153 rfl rfl ?_
  refine zw_bipush 8 156 f103_154 rfl (by decide +kernel) ?_
  refine zw_static_i 159 0 0 [.int c, .int 8] [.ref 0] [(0, .int c), (1, .int 8)] f103_156 rfl k103_304_99 rfl (by decide +kernel) (Nat.le_of_ble_eq_true rfl) (Nat.le_of_ble_eq_true rfl) rfl rfl (by decide +kernel) (by decide +kernel) rfl (Nat.le_of_ble_eq_true rfl) rfl ?_
  refine zw_iload_n 1 f186_0 rfl rfl ?_
  refine zw_iload_n 2 f186_1 rfl rfl ?_
  refine zw_irem (c - c / 8 * 8) 3 f186_2 rfl (by decide +kernel) rfl ?_
  refine zw_istore_n [(2, .int (c - c / 8 * 8)), (0, .int c), (1, .int 8)] 4 f186_3 rfl (by decide +kernel) rfl ?_
  refine zw_iload_n 5 f186_4 rfl rfl ?_
  refine zw_iload_n 6 f186_5 rfl rfl ?_
  refine zw_ixor (c ^^^ 8) 7 f186_6 rfl rfl ?_
  refine zw_if_ge 10 18 f186_7 (by decide +kernel) rfl (fun hc1 => ?_) (fun hc1 => ?_)
  · refine zw_iload_n 19 f186_18 rfl rfl ?_
    refine zw_ireturn f186_19 r186 u186 ⟨_, rfl, ?_⟩
    refine zw_virtual_i 162 0 0 [.ref 0, .int (c - c / 8 * 8)] [(0, .ref 0), (1, .int (c - c / 8 * 8))] f103_159 rfl n103_315 k103_315_11 rfl rfl (by decide +kernel) (Nat.le_of_ble_eq_true rfl) rfl rfl (by decide +kernel) (by decide +kernel) rfl (Nat.le_of_ble_eq_true rfl) rfl ?_
    refine zw_aload_n 1 f111_0 rfl rfl ?_
    refine zw_getfield 4 f111_1 rfl g111_10_11 rfl rfl ?_
    refine zw_iload_n 5 f111_4 rfl rfl ?_
    refine zw_virtual_i 8 0 0 [.ref 1, .int (c - c / 8 * 8)] [(0, .ref 1), (1, .int (c - c / 8 * 8))] f111_5 rfl n111_89 k111_89_4 rfl rfl (by decide +kernel) (Nat.le_of_ble_eq_true rfl) rfl rfl (by decide +kernel) (by decide +kernel) rfl (Nat.le_of_ble_eq_true rfl) rfl ?_
    refine zw_iload_n 1 f13_0 rfl rfl ?_
    refine zw_if_lt 4 22 f13_1 (by decide +kernel) rfl (fun hc2 => ?_) (fun hc2 => ?_)
    · refine zw_iconst 0 23 f13_22 rfl (by decide +kernel) ?_
      refine zw_zreturn f13_23 r13 u13 (by decide +kernel) ⟨_, rfl, ?_⟩
      refine zw_if_ne_f 11 17 f111_8 (by decide +kernel) rfl (by decide +kernel) ?_
      refine zw_aload_n 12 f111_11 rfl rfl ?_
      refine zw_iconst 0 13 f111_12 rfl (by decide +kernel) ?_
      refine zw_virtual_i 16 0 0 [.ref 0, .int 0] [(0, .ref 0), (1, .int 0)] f111_13 rfl n111_181 k111_181_11 rfl rfl (by decide +kernel) (Nat.le_of_ble_eq_true rfl) rfl rfl (by decide +kernel) (by decide +kernel) rfl (Nat.le_of_ble_eq_true rfl) rfl ?_
      refine zw_aload_n 1 f106_0 rfl rfl ?_
      refine zw_iconst 0 2 f106_1 rfl (by decide +kernel) ?_
      refine zw_putfieldS 5 f106_2 rfl g106_70_11 rfl rfl rfl (by decide +kernel) ?_
      refine zw_iload_n 6 f106_5 rfl rfl ?_
      refine zw_ireturn f106_6 r106 u106 ⟨_, rfl, ?_⟩
      refine zw_ireturn f111_16 r111 u111 ⟨_, rfl, ?_⟩
      refine zw_ireturn f103_162 r103 u103 ?_
      exact ⟨rfl, by repeat (first | exact zMF_0 | refine zMF_set (by decide) ?_)⟩
    · refine zw_iload_n 5 f13_4 rfl rfl ?_
      refine zw_aload_n 6 f13_5 rfl rfl ?_
      refine zw_getfield 9 f13_6 rfl g13_39_4 rfl rfl ?_
      refine zw_ic_ge_t 22 f13_9 (by decide +kernel) (Int32.not_lt.mp hc2) ?_
      refine zw_iconst 0 23 f13_22 rfl (by decide +kernel) ?_
      refine zw_zreturn f13_23 r13 u13 (by decide +kernel) ⟨_, rfl, ?_⟩
      refine zw_if_ne_f 11 17 f111_8 (by decide +kernel) rfl (by decide +kernel) ?_
      refine zw_aload_n 12 f111_11 rfl rfl ?_
      refine zw_iconst 0 13 f111_12 rfl (by decide +kernel) ?_
      refine zw_virtual_i 16 0 0 [.ref 0, .int 0] [(0, .ref 0), (1, .int 0)] f111_13 rfl n111_181 k111_181_11 rfl rfl (by decide +kernel) (Nat.le_of_ble_eq_true rfl) rfl rfl (by decide +kernel) (by decide +kernel) rfl (Nat.le_of_ble_eq_true rfl) rfl ?_
      refine zw_aload_n 1 f106_0 rfl rfl ?_
      refine zw_iconst 0 2 f106_1 rfl (by decide +kernel) ?_
      refine zw_putfieldS 5 f106_2 rfl g106_70_11 rfl rfl rfl (by decide +kernel) ?_
      refine zw_iload_n 6 f106_5 rfl rfl ?_
      refine zw_ireturn f106_6 r106 u106 ⟨_, rfl, ?_⟩
      refine zw_ireturn f111_16 r111 u111 ⟨_, rfl, ?_⟩
      refine zw_ireturn f103_162 r103 u103 ?_
      exact ⟨rfl, by repeat (first | exact zMF_0 | refine zMF_set (by decide) ?_)⟩
  · refine zw_iload_n 11 f186_10 rfl rfl ?_
    refine zw_if_eq 14 18 f186_11 (by decide +kernel) rfl (fun hc3 => ?_) (fun hc3 => ?_)
    · refine zw_iload_n 19 f186_18 rfl rfl ?_
      refine zw_ireturn f186_19 r186 u186 ⟨_, rfl, ?_⟩
      refine zw_virtual_i 162 0 0 [.ref 0, .int (c - c / 8 * 8)] [(0, .ref 0), (1, .int (c - c / 8 * 8))] f103_159 rfl n103_315 k103_315_11 rfl rfl (by decide +kernel) (Nat.le_of_ble_eq_true rfl) rfl rfl (by decide +kernel) (by decide +kernel) rfl (Nat.le_of_ble_eq_true rfl) rfl ?_
      refine zw_aload_n 1 f111_0 rfl rfl ?_
      refine zw_getfield 4 f111_1 rfl g111_10_11 rfl rfl ?_
      refine zw_iload_n 5 f111_4 rfl rfl ?_
      refine zw_virtual_i 8 0 0 [.ref 1, .int (c - c / 8 * 8)] [(0, .ref 1), (1, .int (c - c / 8 * 8))] f111_5 rfl n111_89 k111_89_4 rfl rfl (by decide +kernel) (Nat.le_of_ble_eq_true rfl) rfl rfl (by decide +kernel) (by decide +kernel) rfl (Nat.le_of_ble_eq_true rfl) rfl ?_
      refine zw_iload_n 1 f13_0 rfl rfl ?_
      refine zw_if_lt 4 22 f13_1 (by decide +kernel) rfl (fun hc4 => ?_) (fun hc4 => ?_)
      · refine zw_iconst 0 23 f13_22 rfl (by decide +kernel) ?_
        refine zw_zreturn f13_23 r13 u13 (by decide +kernel) ⟨_, rfl, ?_⟩
        refine zw_if_ne_f 11 17 f111_8 (by decide +kernel) rfl (by decide +kernel) ?_
        refine zw_aload_n 12 f111_11 rfl rfl ?_
        refine zw_iconst 0 13 f111_12 rfl (by decide +kernel) ?_
        refine zw_virtual_i 16 0 0 [.ref 0, .int 0] [(0, .ref 0), (1, .int 0)] f111_13 rfl n111_181 k111_181_11 rfl rfl (by decide +kernel) (Nat.le_of_ble_eq_true rfl) rfl rfl (by decide +kernel) (by decide +kernel) rfl (Nat.le_of_ble_eq_true rfl) rfl ?_
        refine zw_aload_n 1 f106_0 rfl rfl ?_
        refine zw_iconst 0 2 f106_1 rfl (by decide +kernel) ?_
        refine zw_putfieldS 5 f106_2 rfl g106_70_11 rfl rfl rfl (by decide +kernel) ?_
        refine zw_iload_n 6 f106_5 rfl rfl ?_
        refine zw_ireturn f106_6 r106 u106 ⟨_, rfl, ?_⟩
        refine zw_ireturn f111_16 r111 u111 ⟨_, rfl, ?_⟩
        refine zw_ireturn f103_162 r103 u103 ?_
        exact ⟨rfl, by repeat (first | exact zMF_0 | refine zMF_set (by decide) ?_)⟩
      · refine zw_iload_n 5 f13_4 rfl rfl ?_
        refine zw_aload_n 6 f13_5 rfl rfl ?_
        refine zw_getfield 9 f13_6 rfl g13_39_4 rfl rfl ?_
        refine zw_ic_ge_t 22 f13_9 (by decide +kernel) (Int32.not_lt.mp hc4) ?_
        refine zw_iconst 0 23 f13_22 rfl (by decide +kernel) ?_
        refine zw_zreturn f13_23 r13 u13 (by decide +kernel) ⟨_, rfl, ?_⟩
        refine zw_if_ne_f 11 17 f111_8 (by decide +kernel) rfl (by decide +kernel) ?_
        refine zw_aload_n 12 f111_11 rfl rfl ?_
        refine zw_iconst 0 13 f111_12 rfl (by decide +kernel) ?_
        refine zw_virtual_i 16 0 0 [.ref 0, .int 0] [(0, .ref 0), (1, .int 0)] f111_13 rfl n111_181 k111_181_11 rfl rfl (by decide +kernel) (Nat.le_of_ble_eq_true rfl) rfl rfl (by decide +kernel) (by decide +kernel) rfl (Nat.le_of_ble_eq_true rfl) rfl ?_
        refine zw_aload_n 1 f106_0 rfl rfl ?_
        refine zw_iconst 0 2 f106_1 rfl (by decide +kernel) ?_
        refine zw_putfieldS 5 f106_2 rfl g106_70_11 rfl rfl rfl (by decide +kernel) ?_
        refine zw_iload_n 6 f106_5 rfl rfl ?_
        refine zw_ireturn f106_6 r106 u106 ⟨_, rfl, ?_⟩
        refine zw_ireturn f111_16 r111 u111 ⟨_, rfl, ?_⟩
        refine zw_ireturn f103_162 r103 u103 ?_
        exact ⟨rfl, by repeat (first | exact zMF_0 | refine zMF_set (by decide) ?_)⟩
    · refine zw_iload_n 15 f186_14 rfl rfl ?_
      refine zw_iload_n 16 f186_15 rfl rfl ?_
      refine zw_iadd ((c - c / 8 * 8) + 8) 17 f186_16 rfl rfl ?_
      refine zw_ireturn f186_17 r186 u186 ⟨_, rfl, ?_⟩
      refine zw_virtual_i 162 0 0 [.ref 0, .int ((c - c / 8 * 8) + 8)] [(0, .ref 0), (1, .int ((c - c / 8 * 8) + 8))] f103_159 rfl n103_315 k103_315_11 rfl rfl (by decide +kernel) (Nat.le_of_ble_eq_true rfl) rfl rfl (by decide +kernel) (by decide +kernel) rfl (Nat.le_of_ble_eq_true rfl) rfl ?_
      refine zw_aload_n 1 f111_0 rfl rfl ?_
      refine zw_getfield 4 f111_1 rfl g111_10_11 rfl rfl ?_
      refine zw_iload_n 5 f111_4 rfl rfl ?_
      refine zw_virtual_i 8 0 0 [.ref 1, .int ((c - c / 8 * 8) + 8)] [(0, .ref 1), (1, .int ((c - c / 8 * 8) + 8))] f111_5 rfl n111_89 k111_89_4 rfl rfl (by decide +kernel) (Nat.le_of_ble_eq_true rfl) rfl rfl (by decide +kernel) (by decide +kernel) rfl (Nat.le_of_ble_eq_true rfl) rfl ?_
      refine zw_iload_n 1 f13_0 rfl rfl ?_
      refine zw_if_lt 4 22 f13_1 (by decide +kernel) rfl (fun hc5 => ?_) (fun hc5 => ?_)
      · refine zw_iconst 0 23 f13_22 rfl (by decide +kernel) ?_
        refine zw_zreturn f13_23 r13 u13 (by decide +kernel) ⟨_, rfl, ?_⟩
        refine zw_if_ne_f 11 17 f111_8 (by decide +kernel) rfl (by decide +kernel) ?_
        refine zw_aload_n 12 f111_11 rfl rfl ?_
        refine zw_iconst 0 13 f111_12 rfl (by decide +kernel) ?_
        refine zw_virtual_i 16 0 0 [.ref 0, .int 0] [(0, .ref 0), (1, .int 0)] f111_13 rfl n111_181 k111_181_11 rfl rfl (by decide +kernel) (Nat.le_of_ble_eq_true rfl) rfl rfl (by decide +kernel) (by decide +kernel) rfl (Nat.le_of_ble_eq_true rfl) rfl ?_
        refine zw_aload_n 1 f106_0 rfl rfl ?_
        refine zw_iconst 0 2 f106_1 rfl (by decide +kernel) ?_
        refine zw_putfieldS 5 f106_2 rfl g106_70_11 rfl rfl rfl (by decide +kernel) ?_
        refine zw_iload_n 6 f106_5 rfl rfl ?_
        refine zw_ireturn f106_6 r106 u106 ⟨_, rfl, ?_⟩
        refine zw_ireturn f111_16 r111 u111 ⟨_, rfl, ?_⟩
        refine zw_ireturn f103_162 r103 u103 ?_
        exact ⟨rfl, by repeat (first | exact zMF_0 | refine zMF_set (by decide) ?_)⟩
      · refine zw_iload_n 5 f13_4 rfl rfl ?_
        refine zw_aload_n 6 f13_5 rfl rfl ?_
        refine zw_getfield 9 f13_6 rfl g13_39_4 rfl rfl ?_
        refine zw_ic_ge_t 22 f13_9 (by decide +kernel) (Int32.not_lt.mp hc5) ?_
        refine zw_iconst 0 23 f13_22 rfl (by decide +kernel) ?_
        refine zw_zreturn f13_23 r13 u13 (by decide +kernel) ⟨_, rfl, ?_⟩
        refine zw_if_ne_f 11 17 f111_8 (by decide +kernel) rfl (by decide +kernel) ?_
        refine zw_aload_n 12 f111_11 rfl rfl ?_
        refine zw_iconst 0 13 f111_12 rfl (by decide +kernel) ?_
        refine zw_virtual_i 16 0 0 [.ref 0, .int 0] [(0, .ref 0), (1, .int 0)] f111_13 rfl n111_181 k111_181_11 rfl rfl (by decide +kernel) (Nat.le_of_ble_eq_true rfl) rfl rfl (by decide +kernel) (by decide +kernel) rfl (Nat.le_of_ble_eq_true rfl) rfl ?_
        refine zw_aload_n 1 f106_0 rfl rfl ?_
        refine zw_iconst 0 2 f106_1 rfl (by decide +kernel) ?_
        refine zw_putfieldS 5 f106_2 rfl g106_70_11 rfl rfl rfl (by decide +kernel) ?_
        refine zw_iload_n 6 f106_5 rfl rfl ?_
        refine zw_ireturn f106_6 r106 u106 ⟨_, rfl, ?_⟩
        refine zw_ireturn f111_16 r111 u111 ⟨_, rfl, ?_⟩
        refine zw_ireturn f103_162 r103 u103 ?_
        exact ⟨rfl, by repeat (first | exact zMF_0 | refine zMF_set (by decide) ?_)⟩
set_option maxRecDepth 100000 in
set_option maxHeartbeats 0 in
theorem x_forge_w5z (ro : UInt32 → Nat × (Nat → Int32)) (c : Int32) (h3 : ¬ c < -100) (h4 : ¬ 100 < c) : zWp ro 103 0 [(0, .ref 0), (1, .int 5), (2, .int 0), (3, .int c)] [] hF 0 0 (fun r h1 => r = some (.int (-1)) ∧ zMF h1) := by
  refine zw_iload_n 1 f103_0 rfl rfl ?_
  refine zw_iconst 0 2 f103_1 rfl (by decide +kernel) ?_
  refine zw_bipush 6 4 f103_2 rfl (by decide +kernel) ?_
  refine zw_static_i 7 0 0 [.int 5, .int 0, .int 6] [] [(0, .int 5), (1, .int 0), (2, .int 6)] f103_4 rfl k103_74_99 rfl (by decide +kernel) (Nat.le_of_ble_eq_true rfl) (Nat.le_of_ble_eq_true rfl) rfl rfl (by decide +kernel) (by decide +kernel) rfl (Nat.le_of_ble_eq_true rfl) rfl ?_
  refine zw_iload_n 1 f112_0 rfl rfl ?_
  refine zw_iload_n 2 f112_1 rfl rfl ?_
  refine zw_ic_lt_f 5 14 f112_2 (by decide +kernel) rfl (by decide +kernel) ?_
  refine zw_iload_n 6 f112_5 rfl rfl ?_
  refine zw_iload_n 7 f112_6 rfl rfl ?_
  refine zw_ic_gt_f 10 14 f112_7 (by decide +kernel) rfl (by decide +kernel) ?_
  refine zw_iconst 1 11 f112_10 rfl (by decide +kernel) ?_
  refine zw_goto 15 f112_11 (by decide +kernel) ?_
  refine zw_zreturn f112_15 r112 u112 (by decide +kernel) ⟨_, rfl, ?_⟩
  refine zw_if_eq_f 10 32 f103_7 (by decide +kernel) rfl (by decide +kernel) ?_
  refine zw_iload_n 11 f103_10 rfl rfl ?_
  refine zw_bipush (-100) 13 f103_11 rfl (by decide +kernel) ?_
  refine zw_bipush 100 15 f103_13 rfl (by decide +kernel) ?_
  refine zw_static_i 18 0 0 [.int 0, .int (-100), .int 100] [] [(0, .int 0), (1, .int (-100)), (2, .int 100)] f103_15 rfl k103_74_99 rfl (by decide +kernel) (Nat.le_of_ble_eq_true rfl) (Nat.le_of_ble_eq_true rfl) rfl rfl (by decide +kernel) (by decide +kernel) rfl (Nat.le_of_ble_eq_true rfl) rfl ?_
  refine zw_iload_n 1 f112_0 rfl rfl ?_
  refine zw_iload_n 2 f112_1 rfl rfl ?_
  refine zw_ic_lt_f 5 14 f112_2 (by decide +kernel) rfl (by decide +kernel) ?_
  refine zw_iload_n 6 f112_5 rfl rfl ?_
  refine zw_iload_n 7 f112_6 rfl rfl ?_
  refine zw_ic_gt_f 10 14 f112_7 (by decide +kernel) rfl (by decide +kernel) ?_
  refine zw_iconst 1 11 f112_10 rfl (by decide +kernel) ?_
  refine zw_goto 15 f112_11 (by decide +kernel) ?_
  refine zw_zreturn f112_15 r112 u112 (by decide +kernel) ⟨_, rfl, ?_⟩
  refine zw_if_eq_f 21 32 f103_18 (by decide +kernel) rfl (by decide +kernel) ?_
  refine zw_iload_n 22 f103_21 rfl rfl ?_
  refine zw_bipush (-100) 24 f103_22 rfl (by decide +kernel) ?_
  refine zw_bipush 100 26 f103_24 rfl (by decide +kernel) ?_
  refine zw_static_i 29 0 0 [.int c, .int (-100), .int 100] [] [(0, .int c), (1, .int (-100)), (2, .int 100)] f103_26 rfl k103_74_99 rfl (by decide +kernel) (Nat.le_of_ble_eq_true rfl) (Nat.le_of_ble_eq_true rfl) rfl rfl (by decide +kernel) (by decide +kernel) rfl (Nat.le_of_ble_eq_true rfl) rfl ?_
  refine zw_iload_n 1 f112_0 rfl rfl ?_
  refine zw_iload_n 2 f112_1 rfl rfl ?_
  refine zw_ic_lt_f 5 14 f112_2 (by decide +kernel) rfl h3 ?_
  refine zw_iload_n 6 f112_5 rfl rfl ?_
  refine zw_iload_n 7 f112_6 rfl rfl ?_
  refine zw_ic_gt_f 10 14 f112_7 (by decide +kernel) rfl h4 ?_
  refine zw_iconst 1 11 f112_10 rfl (by decide +kernel) ?_
  refine zw_goto 15 f112_11 (by decide +kernel) ?_
  refine zw_zreturn f112_15 r112 u112 (by decide +kernel) ⟨_, rfl, ?_⟩
  refine zw_if_ne_t 38 f103_29 (by decide +kernel) (by decide +kernel) ?_
  refine zw_iload_n 39 f103_38 rfl rfl ?_
  refine zw_table_i (off := 124) 163 f103_39 (by decide +kernel) (by decide +kernel) (by decide +kernel) ?_
  refine zw_iload_n 164 f103_163 rfl rfl ?_
  refine zw_if_ne_f 167 176 f103_164 (by decide +kernel) rfl (by decide +kernel) ?_
  refine zw_aload_n 168 f103_167 rfl rfl ?_
  refine zw_bipush 15 170 f103_168 rfl (by decide +kernel) ?_
  refine zw_virtual_i 173 0 0 [.ref 0, .int 15] [(0, .ref 0), (1, .int 15)] f103_170 rfl n103_78 k103_78_11 rfl rfl (by decide +kernel) (Nat.le_of_ble_eq_true rfl) rfl rfl (by decide +kernel) (by decide +kernel) rfl (Nat.le_of_ble_eq_true rfl) rfl ?_
  refine zw_aload_n 1 f105_0 rfl rfl ?_
  refine zw_iload_n 2 f105_1 rfl rfl ?_
  refine zw_putfield 5 f105_2 rfl g105_70_11 rfl rfl (Nat.le_of_ble_eq_true rfl) (by decide +kernel) ?_
  refine zw_iconst (-1) 6 f105_5 rfl (by decide +kernel) ?_
  refine zw_ireturn f105_6 r105 u105 ⟨_, rfl, ?_⟩
  refine zw_goto 185 f103_173 (by decide +kernel) ?_
  refine zw_ireturn f103_185 r103 u103 ?_
  exact ⟨rfl, by repeat (first | exact zMF_0 | refine zMF_set (by decide) ?_)⟩
set_option maxRecDepth 100000 in
set_option maxHeartbeats 0 in
theorem x_forge_w5 (ro : UInt32 → Nat × (Nat → Int32)) (b c : Int32) (h1 : ¬ b < -100) (h2 : ¬ 100 < b) (h3 : ¬ c < -100) (h4 : ¬ 100 < c) (h5 : ¬ b = 0) : zWp ro 103 0 [(0, .ref 0), (1, .int 5), (2, .int b), (3, .int c)] [] hF 0 0 (fun r h1 => r = some (.int (1000 / b)) ∧ zMF h1) := by
  refine zw_iload_n 1 f103_0 rfl rfl ?_
  refine zw_iconst 0 2 f103_1 rfl (by decide +kernel) ?_
  refine zw_bipush 6 4 f103_2 rfl (by decide +kernel) ?_
  refine zw_static_i 7 0 0 [.int 5, .int 0, .int 6] [] [(0, .int 5), (1, .int 0), (2, .int 6)] f103_4 rfl k103_74_99 rfl (by decide +kernel) (Nat.le_of_ble_eq_true rfl) (Nat.le_of_ble_eq_true rfl) rfl rfl (by decide +kernel) (by decide +kernel) rfl (Nat.le_of_ble_eq_true rfl) rfl ?_
  refine zw_iload_n 1 f112_0 rfl rfl ?_
  refine zw_iload_n 2 f112_1 rfl rfl ?_
  refine zw_ic_lt_f 5 14 f112_2 (by decide +kernel) rfl (by decide +kernel) ?_
  refine zw_iload_n 6 f112_5 rfl rfl ?_
  refine zw_iload_n 7 f112_6 rfl rfl ?_
  refine zw_ic_gt_f 10 14 f112_7 (by decide +kernel) rfl (by decide +kernel) ?_
  refine zw_iconst 1 11 f112_10 rfl (by decide +kernel) ?_
  refine zw_goto 15 f112_11 (by decide +kernel) ?_
  refine zw_zreturn f112_15 r112 u112 (by decide +kernel) ⟨_, rfl, ?_⟩
  refine zw_if_eq_f 10 32 f103_7 (by decide +kernel) rfl (by decide +kernel) ?_
  refine zw_iload_n 11 f103_10 rfl rfl ?_
  refine zw_bipush (-100) 13 f103_11 rfl (by decide +kernel) ?_
  refine zw_bipush 100 15 f103_13 rfl (by decide +kernel) ?_
  refine zw_static_i 18 0 0 [.int b, .int (-100), .int 100] [] [(0, .int b), (1, .int (-100)), (2, .int 100)] f103_15 rfl k103_74_99 rfl (by decide +kernel) (Nat.le_of_ble_eq_true rfl) (Nat.le_of_ble_eq_true rfl) rfl rfl (by decide +kernel) (by decide +kernel) rfl (Nat.le_of_ble_eq_true rfl) rfl ?_
  refine zw_iload_n 1 f112_0 rfl rfl ?_
  refine zw_iload_n 2 f112_1 rfl rfl ?_
  refine zw_ic_lt_f 5 14 f112_2 (by decide +kernel) rfl h1 ?_
  refine zw_iload_n 6 f112_5 rfl rfl ?_
  refine zw_iload_n 7 f112_6 rfl rfl ?_
  refine zw_ic_gt_f 10 14 f112_7 (by decide +kernel) rfl h2 ?_
  refine zw_iconst 1 11 f112_10 rfl (by decide +kernel) ?_
  refine zw_goto 15 f112_11 (by decide +kernel) ?_
  refine zw_zreturn f112_15 r112 u112 (by decide +kernel) ⟨_, rfl, ?_⟩
  refine zw_if_eq_f 21 32 f103_18 (by decide +kernel) rfl (by decide +kernel) ?_
  refine zw_iload_n 22 f103_21 rfl rfl ?_
  refine zw_bipush (-100) 24 f103_22 rfl (by decide +kernel) ?_
  refine zw_bipush 100 26 f103_24 rfl (by decide +kernel) ?_
  refine zw_static_i 29 0 0 [.int c, .int (-100), .int 100] [] [(0, .int c), (1, .int (-100)), (2, .int 100)] f103_26 rfl k103_74_99 rfl (by decide +kernel) (Nat.le_of_ble_eq_true rfl) (Nat.le_of_ble_eq_true rfl) rfl rfl (by decide +kernel) (by decide +kernel) rfl (Nat.le_of_ble_eq_true rfl) rfl ?_
  refine zw_iload_n 1 f112_0 rfl rfl ?_
  refine zw_iload_n 2 f112_1 rfl rfl ?_
  refine zw_ic_lt_f 5 14 f112_2 (by decide +kernel) rfl h3 ?_
  refine zw_iload_n 6 f112_5 rfl rfl ?_
  refine zw_iload_n 7 f112_6 rfl rfl ?_
  refine zw_ic_gt_f 10 14 f112_7 (by decide +kernel) rfl h4 ?_
  refine zw_iconst 1 11 f112_10 rfl (by decide +kernel) ?_
  refine zw_goto 15 f112_11 (by decide +kernel) ?_
  refine zw_zreturn f112_15 r112 u112 (by decide +kernel) ⟨_, rfl, ?_⟩
  refine zw_if_ne_t 38 f103_29 (by decide +kernel) (by decide +kernel) ?_
  refine zw_iload_n 39 f103_38 rfl rfl ?_
  refine zw_table_i (off := 124) 163 f103_39 (by decide +kernel) (by decide +kernel) (by decide +kernel) ?_
  refine zw_iload_n 164 f103_163 rfl rfl ?_
  refine zw_if_ne_t 176 f103_164 (by decide +kernel) h5 ?_
  refine zw_aload_n 177 f103_176 rfl rfl ?_
  refine zw_sipush 1000 180 f103_177 rfl (by decide +kernel) ?_
  refine zw_iload_n 181 f103_180 rfl rfl ?_
  refine zw_idiv (1000 / b) 182 f103_181 rfl h5 rfl ?_
  refine zw_virtual_i 185 0 0 [.ref 0, .int (1000 / b)] [(0, .ref 0), (1, .int (1000 / b))] f103_182 rfl n103_181 k103_181_11 rfl rfl (by decide +kernel) (Nat.le_of_ble_eq_true rfl) rfl rfl (by decide +kernel) (by decide +kernel) rfl (Nat.le_of_ble_eq_true rfl) rfl ?_
  refine zw_aload_n 1 f106_0 rfl rfl ?_
  refine zw_iconst 0 2 f106_1 rfl (by decide +kernel) ?_
  refine zw_putfieldS 5 f106_2 rfl g106_70_11 rfl rfl rfl (by decide +kernel) ?_
  refine zw_iload_n 6 f106_5 rfl rfl ?_
  refine zw_ireturn f106_6 r106 u106 ⟨_, rfl, ?_⟩
  refine zw_ireturn f103_185 r103 u103 ?_
  exact ⟨rfl, by repeat (first | exact zMF_0 | refine zMF_set (by decide) ?_)⟩
set_option maxRecDepth 100000 in
set_option maxHeartbeats 0 in
theorem x_forge_w6e (ro : UInt32 → Nat × (Nat → Int32)) (b c : Int32) (h1 : ¬ b < -100) (h2 : ¬ 100 < b) (h3 : ¬ c < -100) (h4 : ¬ 100 < c) (h5 : b - b / 2 * 2 = 0) (h6 : b &&& 1 = 0) : zWp ro 103 0 [(0, .ref 0), (1, .int 6), (2, .int b), (3, .int c)] [] hF 0 0 (fun r h1 => r = some (.int (-1)) ∧ zMF h1) := by
  refine zw_iload_n 1 f103_0 rfl rfl ?_
  refine zw_iconst 0 2 f103_1 rfl (by decide +kernel) ?_
  refine zw_bipush 6 4 f103_2 rfl (by decide +kernel) ?_
  refine zw_static_i 7 0 0 [.int 6, .int 0, .int 6] [] [(0, .int 6), (1, .int 0), (2, .int 6)] f103_4 rfl k103_74_99 rfl (by decide +kernel) (Nat.le_of_ble_eq_true rfl) (Nat.le_of_ble_eq_true rfl) rfl rfl (by decide +kernel) (by decide +kernel) rfl (Nat.le_of_ble_eq_true rfl) rfl ?_
  refine zw_iload_n 1 f112_0 rfl rfl ?_
  refine zw_iload_n 2 f112_1 rfl rfl ?_
  refine zw_ic_lt_f 5 14 f112_2 (by decide +kernel) rfl (by decide +kernel) ?_
  refine zw_iload_n 6 f112_5 rfl rfl ?_
  refine zw_iload_n 7 f112_6 rfl rfl ?_
  refine zw_ic_gt_f 10 14 f112_7 (by decide +kernel) rfl (by decide +kernel) ?_
  refine zw_iconst 1 11 f112_10 rfl (by decide +kernel) ?_
  refine zw_goto 15 f112_11 (by decide +kernel) ?_
  refine zw_zreturn f112_15 r112 u112 (by decide +kernel) ⟨_, rfl, ?_⟩
  refine zw_if_eq_f 10 32 f103_7 (by decide +kernel) rfl (by decide +kernel) ?_
  refine zw_iload_n 11 f103_10 rfl rfl ?_
  refine zw_bipush (-100) 13 f103_11 rfl (by decide +kernel) ?_
  refine zw_bipush 100 15 f103_13 rfl (by decide +kernel) ?_
  refine zw_static_i 18 0 0 [.int b, .int (-100), .int 100] [] [(0, .int b), (1, .int (-100)), (2, .int 100)] f103_15 rfl k103_74_99 rfl (by decide +kernel) (Nat.le_of_ble_eq_true rfl) (Nat.le_of_ble_eq_true rfl) rfl rfl (by decide +kernel) (by decide +kernel) rfl (Nat.le_of_ble_eq_true rfl) rfl ?_
  refine zw_iload_n 1 f112_0 rfl rfl ?_
  refine zw_iload_n 2 f112_1 rfl rfl ?_
  refine zw_ic_lt_f 5 14 f112_2 (by decide +kernel) rfl h1 ?_
  refine zw_iload_n 6 f112_5 rfl rfl ?_
  refine zw_iload_n 7 f112_6 rfl rfl ?_
  refine zw_ic_gt_f 10 14 f112_7 (by decide +kernel) rfl h2 ?_
  refine zw_iconst 1 11 f112_10 rfl (by decide +kernel) ?_
  refine zw_goto 15 f112_11 (by decide +kernel) ?_
  refine zw_zreturn f112_15 r112 u112 (by decide +kernel) ⟨_, rfl, ?_⟩
  refine zw_if_eq_f 21 32 f103_18 (by decide +kernel) rfl (by decide +kernel) ?_
  refine zw_iload_n 22 f103_21 rfl rfl ?_
  refine zw_bipush (-100) 24 f103_22 rfl (by decide +kernel) ?_
  refine zw_bipush 100 26 f103_24 rfl (by decide +kernel) ?_
  refine zw_static_i 29 0 0 [.int c, .int (-100), .int 100] [] [(0, .int c), (1, .int (-100)), (2, .int 100)] f103_26 rfl k103_74_99 rfl (by decide +kernel) (Nat.le_of_ble_eq_true rfl) (Nat.le_of_ble_eq_true rfl) rfl rfl (by decide +kernel) (by decide +kernel) rfl (Nat.le_of_ble_eq_true rfl) rfl ?_
  refine zw_iload_n 1 f112_0 rfl rfl ?_
  refine zw_iload_n 2 f112_1 rfl rfl ?_
  refine zw_ic_lt_f 5 14 f112_2 (by decide +kernel) rfl h3 ?_
  refine zw_iload_n 6 f112_5 rfl rfl ?_
  refine zw_iload_n 7 f112_6 rfl rfl ?_
  refine zw_ic_gt_f 10 14 f112_7 (by decide +kernel) rfl h4 ?_
  refine zw_iconst 1 11 f112_10 rfl (by decide +kernel) ?_
  refine zw_goto 15 f112_11 (by decide +kernel) ?_
  refine zw_zreturn f112_15 r112 u112 (by decide +kernel) ⟨_, rfl, ?_⟩
  refine zw_if_ne_t 38 f103_29 (by decide +kernel) (by decide +kernel) ?_
  refine zw_iload_n 39 f103_38 rfl rfl ?_
  refine zw_table_o 186 f103_39 (by decide +kernel) (by decide +kernel) ?_
  refine zw_iload_n 187 f103_186 rfl rfl ?_
  refine zw_iconst 2 188 f103_187 rfl (by decide +kernel) ?_
  refine zw_static_i 191 0 0 [.int b, .int 2] [] [(0, .int b), (1, .int 2)] f103_188 rfl k103_304_99 rfl (by decide +kernel) (Nat.le_of_ble_eq_true rfl) (Nat.le_of_ble_eq_true rfl) rfl rfl (by decide +kernel) (by decide +kernel) rfl (Nat.le_of_ble_eq_true rfl) rfl ?_
  refine zw_iload_n 1 f186_0 rfl rfl ?_
  refine zw_iload_n 2 f186_1 rfl rfl ?_
  refine zw_irem 0 3 f186_2 rfl (by decide +kernel) h5 ?_
  refine zw_istore_n [(2, .int 0), (0, .int b), (1, .int 2)] 4 f186_3 rfl (by decide +kernel) rfl ?_
  refine zw_iload_n 5 f186_4 rfl rfl ?_
  refine zw_iload_n 6 f186_5 rfl rfl ?_
  refine zw_ixor (b ^^^ 2) 7 f186_6 rfl rfl ?_
  refine zw_if_ge 10 18 f186_7 (by decide +kernel) rfl (fun hc1 => ?_) (fun hc1 => ?_)
  · refine zw_iload_n 19 f186_18 rfl rfl ?_
    refine zw_ireturn f186_19 r186 u186 ⟨_, rfl, ?_⟩
    refine zw_if_ne_f 194 203 f103_191 (by decide +kernel) rfl (by decide +kernel) ?_
    refine zw_aload_n 195 f103_194 rfl rfl ?_
    refine zw_bipush 10 197 f103_195 rfl (by decide +kernel) ?_
    refine zw_virtual_i 200 0 0 [.ref 0, .int 10] [(0, .ref 0), (1, .int 10)] f103_197 rfl n103_78 k103_78_11 rfl rfl (by decide +kernel) (Nat.le_of_ble_eq_true rfl) rfl rfl (by decide +kernel) (by decide +kernel) rfl (Nat.le_of_ble_eq_true rfl) rfl ?_
    refine zw_aload_n 1 f105_0 rfl rfl ?_
    refine zw_iload_n 2 f105_1 rfl rfl ?_
    refine zw_putfield 5 f105_2 rfl g105_70_11 rfl rfl (Nat.le_of_ble_eq_true rfl) (by decide +kernel) ?_
    refine zw_iconst (-1) 6 f105_5 rfl (by decide +kernel) ?_
    refine zw_ireturn f105_6 r105 u105 ⟨_, rfl, ?_⟩
    refine zw_goto 208 f103_200 (by decide +kernel) ?_
    refine zw_ireturn f103_208 r103 u103 ?_
    exact ⟨rfl, by repeat (first | exact zMF_0 | refine zMF_set (by decide) ?_)⟩
  · refine zw_iload_n 11 f186_10 rfl rfl ?_
    refine zw_if_eq_t 18 f186_11 (by decide +kernel) (by decide +kernel) ?_
    refine zw_iload_n 19 f186_18 rfl rfl ?_
    refine zw_ireturn f186_19 r186 u186 ⟨_, rfl, ?_⟩
    refine zw_if_ne_f 194 203 f103_191 (by decide +kernel) rfl (by decide +kernel) ?_
    refine zw_aload_n 195 f103_194 rfl rfl ?_
    refine zw_bipush 10 197 f103_195 rfl (by decide +kernel) ?_
    refine zw_virtual_i 200 0 0 [.ref 0, .int 10] [(0, .ref 0), (1, .int 10)] f103_197 rfl n103_78 k103_78_11 rfl rfl (by decide +kernel) (Nat.le_of_ble_eq_true rfl) rfl rfl (by decide +kernel) (by decide +kernel) rfl (Nat.le_of_ble_eq_true rfl) rfl ?_
    refine zw_aload_n 1 f105_0 rfl rfl ?_
    refine zw_iload_n 2 f105_1 rfl rfl ?_
    refine zw_putfield 5 f105_2 rfl g105_70_11 rfl rfl (Nat.le_of_ble_eq_true rfl) (by decide +kernel) ?_
    refine zw_iconst (-1) 6 f105_5 rfl (by decide +kernel) ?_
    refine zw_ireturn f105_6 r105 u105 ⟨_, rfl, ?_⟩
    refine zw_goto 208 f103_200 (by decide +kernel) ?_
    refine zw_ireturn f103_208 r103 u103 ?_
    exact ⟨rfl, by repeat (first | exact zMF_0 | refine zMF_set (by decide) ?_)⟩
set_option maxRecDepth 100000 in
set_option maxHeartbeats 0 in
theorem x_forge_w6p (ro : UInt32 → Nat × (Nat → Int32)) (b c : Int32) (h1 : ¬ b < -100) (h2 : ¬ 100 < b) (h3 : ¬ c < -100) (h4 : ¬ 100 < c) (h5 : b - b / 2 * 2 = 1) (h6 : b &&& 1 = 1) : zWp ro 103 0 [(0, .ref 0), (1, .int 6), (2, .int b), (3, .int c)] [] hF 0 0 (fun r h1 => r = some (.int 1) ∧ zMF h1) := by
  refine zw_iload_n 1 f103_0 rfl rfl ?_
  refine zw_iconst 0 2 f103_1 rfl (by decide +kernel) ?_
  refine zw_bipush 6 4 f103_2 rfl (by decide +kernel) ?_
  refine zw_static_i 7 0 0 [.int 6, .int 0, .int 6] [] [(0, .int 6), (1, .int 0), (2, .int 6)] f103_4 rfl k103_74_99 rfl (by decide +kernel) (Nat.le_of_ble_eq_true rfl) (Nat.le_of_ble_eq_true rfl) rfl rfl (by decide +kernel) (by decide +kernel) rfl (Nat.le_of_ble_eq_true rfl) rfl ?_
  refine zw_iload_n 1 f112_0 rfl rfl ?_
  refine zw_iload_n 2 f112_1 rfl rfl ?_
  refine zw_ic_lt_f 5 14 f112_2 (by decide +kernel) rfl (by decide +kernel) ?_
  refine zw_iload_n 6 f112_5 rfl rfl ?_
  refine zw_iload_n 7 f112_6 rfl rfl ?_
  refine zw_ic_gt_f 10 14 f112_7 (by decide +kernel) rfl (by decide +kernel) ?_
  refine zw_iconst 1 11 f112_10 rfl (by decide +kernel) ?_
  refine zw_goto 15 f112_11 (by decide +kernel) ?_
  refine zw_zreturn f112_15 r112 u112 (by decide +kernel) ⟨_, rfl, ?_⟩
  refine zw_if_eq_f 10 32 f103_7 (by decide +kernel) rfl (by decide +kernel) ?_
  refine zw_iload_n 11 f103_10 rfl rfl ?_
  refine zw_bipush (-100) 13 f103_11 rfl (by decide +kernel) ?_
  refine zw_bipush 100 15 f103_13 rfl (by decide +kernel) ?_
  refine zw_static_i 18 0 0 [.int b, .int (-100), .int 100] [] [(0, .int b), (1, .int (-100)), (2, .int 100)] f103_15 rfl k103_74_99 rfl (by decide +kernel) (Nat.le_of_ble_eq_true rfl) (Nat.le_of_ble_eq_true rfl) rfl rfl (by decide +kernel) (by decide +kernel) rfl (Nat.le_of_ble_eq_true rfl) rfl ?_
  refine zw_iload_n 1 f112_0 rfl rfl ?_
  refine zw_iload_n 2 f112_1 rfl rfl ?_
  refine zw_ic_lt_f 5 14 f112_2 (by decide +kernel) rfl h1 ?_
  refine zw_iload_n 6 f112_5 rfl rfl ?_
  refine zw_iload_n 7 f112_6 rfl rfl ?_
  refine zw_ic_gt_f 10 14 f112_7 (by decide +kernel) rfl h2 ?_
  refine zw_iconst 1 11 f112_10 rfl (by decide +kernel) ?_
  refine zw_goto 15 f112_11 (by decide +kernel) ?_
  refine zw_zreturn f112_15 r112 u112 (by decide +kernel) ⟨_, rfl, ?_⟩
  refine zw_if_eq_f 21 32 f103_18 (by decide +kernel) rfl (by decide +kernel) ?_
  refine zw_iload_n 22 f103_21 rfl rfl ?_
  refine zw_bipush (-100) 24 f103_22 rfl (by decide +kernel) ?_
  refine zw_bipush 100 26 f103_24 rfl (by decide +kernel) ?_
  refine zw_static_i 29 0 0 [.int c, .int (-100), .int 100] [] [(0, .int c), (1, .int (-100)), (2, .int 100)] f103_26 rfl k103_74_99 rfl (by decide +kernel) (Nat.le_of_ble_eq_true rfl) (Nat.le_of_ble_eq_true rfl) rfl rfl (by decide +kernel) (by decide +kernel) rfl (Nat.le_of_ble_eq_true rfl) rfl ?_
  refine zw_iload_n 1 f112_0 rfl rfl ?_
  refine zw_iload_n 2 f112_1 rfl rfl ?_
  refine zw_ic_lt_f 5 14 f112_2 (by decide +kernel) rfl h3 ?_
  refine zw_iload_n 6 f112_5 rfl rfl ?_
  refine zw_iload_n 7 f112_6 rfl rfl ?_
  refine zw_ic_gt_f 10 14 f112_7 (by decide +kernel) rfl h4 ?_
  refine zw_iconst 1 11 f112_10 rfl (by decide +kernel) ?_
  refine zw_goto 15 f112_11 (by decide +kernel) ?_
  refine zw_zreturn f112_15 r112 u112 (by decide +kernel) ⟨_, rfl, ?_⟩
  refine zw_if_ne_t 38 f103_29 (by decide +kernel) (by decide +kernel) ?_
  refine zw_iload_n 39 f103_38 rfl rfl ?_
  refine zw_table_o 186 f103_39 (by decide +kernel) (by decide +kernel) ?_
  refine zw_iload_n 187 f103_186 rfl rfl ?_
  refine zw_iconst 2 188 f103_187 rfl (by decide +kernel) ?_
  refine zw_static_i 191 0 0 [.int b, .int 2] [] [(0, .int b), (1, .int 2)] f103_188 rfl k103_304_99 rfl (by decide +kernel) (Nat.le_of_ble_eq_true rfl) (Nat.le_of_ble_eq_true rfl) rfl rfl (by decide +kernel) (by decide +kernel) rfl (Nat.le_of_ble_eq_true rfl) rfl ?_
  refine zw_iload_n 1 f186_0 rfl rfl ?_
  refine zw_iload_n 2 f186_1 rfl rfl ?_
  refine zw_irem 1 3 f186_2 rfl (by decide +kernel) h5 ?_
  refine zw_istore_n [(2, .int 1), (0, .int b), (1, .int 2)] 4 f186_3 rfl (by decide +kernel) rfl ?_
  refine zw_iload_n 5 f186_4 rfl rfl ?_
  refine zw_iload_n 6 f186_5 rfl rfl ?_
  refine zw_ixor (b ^^^ 2) 7 f186_6 rfl rfl ?_
  refine zw_if_ge 10 18 f186_7 (by decide +kernel) rfl (fun hc1 => ?_) (fun hc1 => ?_)
  · refine zw_iload_n 19 f186_18 rfl rfl ?_
    refine zw_ireturn f186_19 r186 u186 ⟨_, rfl, ?_⟩
    refine zw_if_ne_t 203 f103_191 (by decide +kernel) (by decide +kernel) ?_
    refine zw_aload_n 204 f103_203 rfl rfl ?_
    refine zw_iconst 1 205 f103_204 rfl (by decide +kernel) ?_
    refine zw_virtual_i 208 0 0 [.ref 0, .int 1] [(0, .ref 0), (1, .int 1)] f103_205 rfl n103_181 k103_181_11 rfl rfl (by decide +kernel) (Nat.le_of_ble_eq_true rfl) rfl rfl (by decide +kernel) (by decide +kernel) rfl (Nat.le_of_ble_eq_true rfl) rfl ?_
    refine zw_aload_n 1 f106_0 rfl rfl ?_
    refine zw_iconst 0 2 f106_1 rfl (by decide +kernel) ?_
    refine zw_putfieldS 5 f106_2 rfl g106_70_11 rfl rfl rfl (by decide +kernel) ?_
    refine zw_iload_n 6 f106_5 rfl rfl ?_
    refine zw_ireturn f106_6 r106 u106 ⟨_, rfl, ?_⟩
    refine zw_ireturn f103_208 r103 u103 ?_
    exact ⟨rfl, by repeat (first | exact zMF_0 | refine zMF_set (by decide) ?_)⟩
  · refine zw_iload_n 11 f186_10 rfl rfl ?_
    refine zw_if_eq_f 14 18 f186_11 (by decide +kernel) rfl (by decide +kernel) ?_
    refine zw_iload_n 15 f186_14 rfl rfl ?_
    refine zw_iload_n 16 f186_15 rfl rfl ?_
    refine zw_iadd 3 17 f186_16 rfl (by decide +kernel) ?_
    refine zw_ireturn f186_17 r186 u186 ⟨_, rfl, ?_⟩
    refine zw_if_ne_t 203 f103_191 (by decide +kernel) (by decide +kernel) ?_
    refine zw_aload_n 204 f103_203 rfl rfl ?_
    refine zw_iconst 1 205 f103_204 rfl (by decide +kernel) ?_
    refine zw_virtual_i 208 0 0 [.ref 0, .int 1] [(0, .ref 0), (1, .int 1)] f103_205 rfl n103_181 k103_181_11 rfl rfl (by decide +kernel) (Nat.le_of_ble_eq_true rfl) rfl rfl (by decide +kernel) (by decide +kernel) rfl (Nat.le_of_ble_eq_true rfl) rfl ?_
    refine zw_aload_n 1 f106_0 rfl rfl ?_
    refine zw_iconst 0 2 f106_1 rfl (by decide +kernel) ?_
    refine zw_putfieldS 5 f106_2 rfl g106_70_11 rfl rfl rfl (by decide +kernel) ?_
    refine zw_iload_n 6 f106_5 rfl rfl ?_
    refine zw_ireturn f106_6 r106 u106 ⟨_, rfl, ?_⟩
    refine zw_ireturn f103_208 r103 u103 ?_
    exact ⟨rfl, by repeat (first | exact zMF_0 | refine zMF_set (by decide) ?_)⟩
set_option maxRecDepth 100000 in
set_option maxHeartbeats 0 in
theorem x_forge_w6m (ro : UInt32 → Nat × (Nat → Int32)) (b c : Int32) (h1 : ¬ b < -100) (h2 : ¬ 100 < b) (h3 : ¬ c < -100) (h4 : ¬ 100 < c) (h5 : b - b / 2 * 2 = -1) (h6 : b &&& 1 = 1) : zWp ro 103 0 [(0, .ref 0), (1, .int 6), (2, .int b), (3, .int c)] [] hF 0 0 (fun r h1 => r = some (.int 1) ∧ zMF h1) := by
  refine zw_iload_n 1 f103_0 rfl rfl ?_
  refine zw_iconst 0 2 f103_1 rfl (by decide +kernel) ?_
  refine zw_bipush 6 4 f103_2 rfl (by decide +kernel) ?_
  refine zw_static_i 7 0 0 [.int 6, .int 0, .int 6] [] [(0, .int 6), (1, .int 0), (2, .int 6)] f103_4 rfl k103_74_99 rfl (by decide +kernel) (Nat.le_of_ble_eq_true rfl) (Nat.le_of_ble_eq_true rfl) rfl rfl (by decide +kernel) (by decide +kernel) rfl (Nat.le_of_ble_eq_true rfl) rfl ?_
  refine zw_iload_n 1 f112_0 rfl rfl ?_
  refine zw_iload_n 2 f112_1 rfl rfl ?_
  refine zw_ic_lt_f 5 14 f112_2 (by decide +kernel) rfl (by decide +kernel) ?_
  refine zw_iload_n 6 f112_5 rfl rfl ?_
  refine zw_iload_n 7 f112_6 rfl rfl ?_
  refine zw_ic_gt_f 10 14 f112_7 (by decide +kernel) rfl (by decide +kernel) ?_
  refine zw_iconst 1 11 f112_10 rfl (by decide +kernel) ?_
  refine zw_goto 15 f112_11 (by decide +kernel) ?_
  refine zw_zreturn f112_15 r112 u112 (by decide +kernel) ⟨_, rfl, ?_⟩
  refine zw_if_eq_f 10 32 f103_7 (by decide +kernel) rfl (by decide +kernel) ?_
  refine zw_iload_n 11 f103_10 rfl rfl ?_
  refine zw_bipush (-100) 13 f103_11 rfl (by decide +kernel) ?_
  refine zw_bipush 100 15 f103_13 rfl (by decide +kernel) ?_
  refine zw_static_i 18 0 0 [.int b, .int (-100), .int 100] [] [(0, .int b), (1, .int (-100)), (2, .int 100)] f103_15 rfl k103_74_99 rfl (by decide +kernel) (Nat.le_of_ble_eq_true rfl) (Nat.le_of_ble_eq_true rfl) rfl rfl (by decide +kernel) (by decide +kernel) rfl (Nat.le_of_ble_eq_true rfl) rfl ?_
  refine zw_iload_n 1 f112_0 rfl rfl ?_
  refine zw_iload_n 2 f112_1 rfl rfl ?_
  refine zw_ic_lt_f 5 14 f112_2 (by decide +kernel) rfl h1 ?_
  refine zw_iload_n 6 f112_5 rfl rfl ?_
  refine zw_iload_n 7 f112_6 rfl rfl ?_
  refine zw_ic_gt_f 10 14 f112_7 (by decide +kernel) rfl h2 ?_
  refine zw_iconst 1 11 f112_10 rfl (by decide +kernel) ?_
  refine zw_goto 15 f112_11 (by decide +kernel) ?_
  refine zw_zreturn f112_15 r112 u112 (by decide +kernel) ⟨_, rfl, ?_⟩
  refine zw_if_eq_f 21 32 f103_18 (by decide +kernel) rfl (by decide +kernel) ?_
  refine zw_iload_n 22 f103_21 rfl rfl ?_
  refine zw_bipush (-100) 24 f103_22 rfl (by decide +kernel) ?_
  refine zw_bipush 100 26 f103_24 rfl (by decide +kernel) ?_
  refine zw_static_i 29 0 0 [.int c, .int (-100), .int 100] [] [(0, .int c), (1, .int (-100)), (2, .int 100)] f103_26 rfl k103_74_99 rfl (by decide +kernel) (Nat.le_of_ble_eq_true rfl) (Nat.le_of_ble_eq_true rfl) rfl rfl (by decide +kernel) (by decide +kernel) rfl (Nat.le_of_ble_eq_true rfl) rfl ?_
  refine zw_iload_n 1 f112_0 rfl rfl ?_
  refine zw_iload_n 2 f112_1 rfl rfl ?_
  refine zw_ic_lt_f 5 14 f112_2 (by decide +kernel) rfl h3 ?_
  refine zw_iload_n 6 f112_5 rfl rfl ?_
  refine zw_iload_n 7 f112_6 rfl rfl ?_
  refine zw_ic_gt_f 10 14 f112_7 (by decide +kernel) rfl h4 ?_
  refine zw_iconst 1 11 f112_10 rfl (by decide +kernel) ?_
  refine zw_goto 15 f112_11 (by decide +kernel) ?_
  refine zw_zreturn f112_15 r112 u112 (by decide +kernel) ⟨_, rfl, ?_⟩
  refine zw_if_ne_t 38 f103_29 (by decide +kernel) (by decide +kernel) ?_
  refine zw_iload_n 39 f103_38 rfl rfl ?_
  refine zw_table_o 186 f103_39 (by decide +kernel) (by decide +kernel) ?_
  refine zw_iload_n 187 f103_186 rfl rfl ?_
  refine zw_iconst 2 188 f103_187 rfl (by decide +kernel) ?_
  refine zw_static_i 191 0 0 [.int b, .int 2] [] [(0, .int b), (1, .int 2)] f103_188 rfl k103_304_99 rfl (by decide +kernel) (Nat.le_of_ble_eq_true rfl) (Nat.le_of_ble_eq_true rfl) rfl rfl (by decide +kernel) (by decide +kernel) rfl (Nat.le_of_ble_eq_true rfl) rfl ?_
  refine zw_iload_n 1 f186_0 rfl rfl ?_
  refine zw_iload_n 2 f186_1 rfl rfl ?_
  refine zw_irem (-1) 3 f186_2 rfl (by decide +kernel) h5 ?_
  refine zw_istore_n [(2, .int (-1)), (0, .int b), (1, .int 2)] 4 f186_3 rfl (by decide +kernel) rfl ?_
  refine zw_iload_n 5 f186_4 rfl rfl ?_
  refine zw_iload_n 6 f186_5 rfl rfl ?_
  refine zw_ixor (b ^^^ 2) 7 f186_6 rfl rfl ?_
  refine zw_if_ge 10 18 f186_7 (by decide +kernel) rfl (fun hc1 => ?_) (fun hc1 => ?_)
  · refine zw_iload_n 19 f186_18 rfl rfl ?_
    refine zw_ireturn f186_19 r186 u186 ⟨_, rfl, ?_⟩
    refine zw_if_ne_t 203 f103_191 (by decide +kernel) (by decide +kernel) ?_
    refine zw_aload_n 204 f103_203 rfl rfl ?_
    refine zw_iconst 1 205 f103_204 rfl (by decide +kernel) ?_
    refine zw_virtual_i 208 0 0 [.ref 0, .int 1] [(0, .ref 0), (1, .int 1)] f103_205 rfl n103_181 k103_181_11 rfl rfl (by decide +kernel) (Nat.le_of_ble_eq_true rfl) rfl rfl (by decide +kernel) (by decide +kernel) rfl (Nat.le_of_ble_eq_true rfl) rfl ?_
    refine zw_aload_n 1 f106_0 rfl rfl ?_
    refine zw_iconst 0 2 f106_1 rfl (by decide +kernel) ?_
    refine zw_putfieldS 5 f106_2 rfl g106_70_11 rfl rfl rfl (by decide +kernel) ?_
    refine zw_iload_n 6 f106_5 rfl rfl ?_
    refine zw_ireturn f106_6 r106 u106 ⟨_, rfl, ?_⟩
    refine zw_ireturn f103_208 r103 u103 ?_
    exact ⟨rfl, by repeat (first | exact zMF_0 | refine zMF_set (by decide) ?_)⟩
  · refine zw_iload_n 11 f186_10 rfl rfl ?_
    refine zw_if_eq_f 14 18 f186_11 (by decide +kernel) rfl (by decide +kernel) ?_
    refine zw_iload_n 15 f186_14 rfl rfl ?_
    refine zw_iload_n 16 f186_15 rfl rfl ?_
    refine zw_iadd 1 17 f186_16 rfl (by decide +kernel) ?_
    refine zw_ireturn f186_17 r186 u186 ⟨_, rfl, ?_⟩
    refine zw_if_ne_t 203 f103_191 (by decide +kernel) (by decide +kernel) ?_
    refine zw_aload_n 204 f103_203 rfl rfl ?_
    refine zw_iconst 1 205 f103_204 rfl (by decide +kernel) ?_
    refine zw_virtual_i 208 0 0 [.ref 0, .int 1] [(0, .ref 0), (1, .int 1)] f103_205 rfl n103_181 k103_181_11 rfl rfl (by decide +kernel) (Nat.le_of_ble_eq_true rfl) rfl rfl (by decide +kernel) (by decide +kernel) rfl (Nat.le_of_ble_eq_true rfl) rfl ?_
    refine zw_aload_n 1 f106_0 rfl rfl ?_
    refine zw_iconst 0 2 f106_1 rfl (by decide +kernel) ?_
    refine zw_putfieldS 5 f106_2 rfl g106_70_11 rfl rfl rfl (by decide +kernel) ?_
    refine zw_iload_n 6 f106_5 rfl rfl ?_
    refine zw_ireturn f106_6 r106 u106 ⟨_, rfl, ?_⟩
    refine zw_ireturn f103_208 r103 u103 ?_
    exact ⟨rfl, by repeat (first | exact zMF_0 | refine zMF_set (by decide) ?_)⟩
set_option maxRecDepth 100000 in
set_option maxHeartbeats 0 in
theorem x_status_r (ro : UInt32 → Nat × (Nat → Int32)) : zWp ro 104 0 [(0, .ref 0)] [] hF 0 0 (fun r h1 => r = some (.int 0) ∧ zMF h1) := by
  refine zw_aload_n 1 f104_0 rfl rfl ?_
  refine zw_getfield 4 f104_1 rfl g104_70_11 rfl rfl ?_
  refine zw_ireturn f104_4 r104 u104 ?_
  exact ⟨rfl, by repeat (first | exact zMF_0 | refine zMF_set (by decide) ?_)⟩
