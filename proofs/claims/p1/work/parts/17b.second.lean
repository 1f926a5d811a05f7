set_option maxRecDepth 100000 in
set_option maxHeartbeats 0 in
theorem m_go_r3 (ro : UInt32 → Nat × (Nat → Int32)) (x : Nat → va_E) : zWp ro 152 0 [(0, .ref 52), (1, .int 0)] [] (hMx x) 0 0 (fun r _ => r = some (.int 0)) := by
  refine zw_iload_n 1 f152_0 rfl rfl ?_
  refine zw_sipush 10000 4 f152_1 rfl (by decide +kernel) ?_
  refine zw_ic_gt_f 7 22 f152_4 (by decide +kernel) rfl (by decide +kernel) ?_
  refine zw_iload_n 8 f152_7 rfl rfl ?_
  refine zw_i2l 0 9 f152_8 rfl (by decide +kernel) ?_
  refine zw_aload_n 10 f152_9 rfl rfl ?_
  refine zw_getfield 13 f152_10 rfl g152_40_12 (mb_52 x) rfl ?_
  refine zw_lmul 0 14 f152_13 rfl (by decide +kernel) ?_
  refine zw_aload_n 15 f152_14 rfl rfl ?_
  refine zw_getfield 18 f152_15 rfl g152_172_12 (mb_52 x) rfl ?_
  refine zw_lcmp 0 19 f152_18 rfl (by decide +kernel) ?_
  refine zw_if_ge_t 28 f152_19 (by decide +kernel) (by decide +kernel) ?_
  refine zw_aload_n 29 f152_28 rfl rfl ?_
  refine zw_getfield 32 f152_29 rfl g152_183_12 (mb_52 x) rfl ?_
  refine zw_istore_n [(2, .int 0), (0, .ref 52), (1, .int 0)] 33 f152_32 rfl (by decide +kernel) rfl ?_
  refine zw_iconst 0 34 f152_33 rfl (by decide +kernel) ?_
  refine zw_istore_n [(3, .int 0), (2, .int 0), (0, .ref 52), (1, .int 0)] 35 f152_34 rfl (by decide +kernel) rfl ?_
  refine zw_iconst 1 36 f152_35 rfl (by decide +kernel) ?_
  refine zw_istore [(4, .int 1), (3, .int 0), (2, .int 0), (0, .ref 52), (1, .int 0)] 38 f152_36 rfl (by decide +kernel) rfl ?_
  refine zw_iload 40 f152_38 rfl rfl ?_
  refine zw_iconst 1 41 f152_40 rfl (by decide +kernel) ?_
  refine zw_ic_ne_f 44 122 f152_41 (by decide +kernel) rfl (by decide +kernel) ?_
  refine zw_aload_n 45 f152_44 rfl rfl ?_
  refine zw_virtual_v 48 0 0 [.ref 52] [(0, .ref 52)] f152_45 rfl n152_228 k152_228_12 rfl (mb_52 x) (by decide +kernel) (Nat.le_of_ble_eq_true rfl) rfl rfl (by decide +kernel) (by decide +kernel) rfl (Nat.le_of_ble_eq_true rfl) rfl ?_
  refine zw_aload_n 1 f132_0 rfl rfl ?_
  refine zw_virtual_v 4 0 0 [.ref 52] [(0, .ref 52)] f132_1 rfl n132_151 k132_151_12 rfl (mb_52 x) (by decide +kernel) (Nat.le_of_ble_eq_true rfl) rfl rfl (by decide +kernel) (by decide +kernel) rfl (Nat.le_of_ble_eq_true rfl) rfl ?_
  refine zw_aload_n 1 f129_0 rfl rfl ?_
  refine zw_iconst 0 2 f129_1 rfl (by decide +kernel) ?_
  refine zw_putfieldS 5 f129_2 rfl g129_127_12 (mb_52 x) rfl rfl (by decide +kernel) ?_
  refine zw_aload_n 6 f129_5 rfl rfl ?_
  refine zw_iconst 0 7 f129_6 rfl (by decide +kernel) ?_
  refine zw_putfieldS 10 f129_7 rfl g129_124_12 (mb_52 x) rfl rfl (by decide +kernel) ?_
  refine zw_iconst 0 11 f129_10 rfl (by decide +kernel) ?_
  refine zw_istore_n [(1, .int 0), (0, .ref 52)] 12 f129_11 rfl (by decide +kernel) rfl ?_
  refine zw_iload_n 13 f129_12 rfl rfl ?_
  refine zw_bipush 8 15 f129_13 rfl (by decide +kernel) ?_
  refine zw_ic_ge_f 18 45 f129_15 (by decide +kernel) rfl (by decide +kernel) ?_
  refine zw_aload_n 19 f129_18 rfl rfl ?_
  refine zw_getfield 22 f129_19 rfl g129_77_12 (mb_52 x) rfl ?_
  refine zw_iload_n 23 f129_22 rfl rfl ?_
  refine zw_iconst 0 24 f129_23 rfl (by decide +kernel) ?_
  refine zw_iastoreS 0 25 f129_24 rfl (mb_72 x) (by decide +kernel) (by decide +kernel) (by decide +kernel) rfl ?_
  refine zw_aload_n 26 f129_25 rfl rfl ?_
  refine zw_getfield 29 f129_26 rfl g129_80_12 (mb_52 x) rfl ?_
  refine zw_iload_n 30 f129_29 rfl rfl ?_
  refine zw_iconst 0 31 f129_30 rfl (by decide +kernel) ?_
  refine zw_iastoreS 0 32 f129_31 rfl (mb_73 x) (by decide +kernel) (by decide +kernel) (by decide +kernel) rfl ?_
  refine zw_aload_n 33 f129_32 rfl rfl ?_
  refine zw_getfield 36 f129_33 rfl g129_83_12 (mb_52 x) rfl ?_
  refine zw_iload_n 37 f129_36 rfl rfl ?_
  refine zw_iconst 0 38 f129_37 rfl (by decide +kernel) ?_
  refine zw_iastoreS 0 39 f129_38 rfl (mb_74 x) (by decide +kernel) (by decide +kernel) (by decide +kernel) rfl ?_
  refine zw_iinc 1 [(1, .int 1), (0, .ref 52)] 42 f129_39 rfl rfl (by decide +kernel) (by decide +kernel) rfl ?_
  refine zw_goto 12 f129_42 (by decide +kernel) ?_
  refine zw_iload_n 13 f129_12 rfl rfl ?_
  refine zw_bipush 8 15 f129_13 rfl (by decide +kernel) ?_
  refine zw_ic_ge_f 18 45 f129_15 (by decide +kernel) rfl (by decide +kernel) ?_
  refine zw_aload_n 19 f129_18 rfl rfl ?_
  refine zw_getfield 22 f129_19 rfl g129_77_12 (mb_52 x) rfl ?_
  refine zw_iload_n 23 f129_22 rfl rfl ?_
  refine zw_iconst 0 24 f129_23 rfl (by decide +kernel) ?_
  refine zw_iastoreS 1 25 f129_24 rfl (mb_72 x) (by decide +kernel) (by decide +kernel) (by decide +kernel) rfl ?_
  refine zw_aload_n 26 f129_25 rfl rfl ?_
  refine zw_getfield 29 f129_26 rfl g129_80_12 (mb_52 x) rfl ?_
  refine zw_iload_n 30 f129_29 rfl rfl ?_
  refine zw_iconst 0 31 f129_30 rfl (by decide +kernel) ?_
  refine zw_iastoreS 1 32 f129_31 rfl (mb_73 x) (by decide +kernel) (by decide +kernel) (by decide +kernel) rfl ?_
  refine zw_aload_n 33 f129_32 rfl rfl ?_
  refine zw_getfield 36 f129_33 rfl g129_83_12 (mb_52 x) rfl ?_
  refine zw_iload_n 37 f129_36 rfl rfl ?_
  refine zw_iconst 0 38 f129_37 rfl (by decide +kernel) ?_
  refine zw_iastoreS 1 39 f129_38 rfl (mb_74 x) (by decide +kernel) (by decide +kernel) (by decide +kernel) rfl ?_
  refine zw_iinc 2 [(1, .int 2), (0, .ref 52)] 42 f129_39 rfl rfl (by decide +kernel) (by decide +kernel) rfl ?_
  refine zw_goto 12 f129_42 (by decide +kernel) ?_
  refine zw_iload_n 13 f129_12 rfl rfl ?_
  refine zw_bipush 8 15 f129_13 rfl (by decide +kernel) ?_
  refine zw_ic_ge_f 18 45 f129_15 (by decide +kernel) rfl (by decide +kernel) ?_
  refine zw_aload_n 19 f129_18 rfl rfl ?_
  refine zw_getfield 22 f129_19 rfl g129_77_12 (mb_52 x) rfl ?_
  refine zw_iload_n 23 f129_22 rfl rfl ?_
  refine zw_iconst 0 24 f129_23 rfl (by decide +kernel) ?_
  refine zw_iastoreS 2 25 f129_24 rfl (mb_72 x) (by decide +kernel) (by decide +kernel) (by decide +kernel) rfl ?_
  refine zw_aload_n 26 f129_25 rfl rfl ?_
  refine zw_getfield 29 f129_26 rfl g129_80_12 (mb_52 x) rfl ?_
  refine zw_iload_n 30 f129_29 rfl rfl ?_
  refine zw_iconst 0 31 f129_30 rfl (by decide +kernel) ?_
  refine zw_iastoreS 2 32 f129_31 rfl (mb_73 x) (by decide +kernel) (by decide +kernel) (by decide +kernel) rfl ?_
  refine zw_aload_n 33 f129_32 rfl rfl ?_
  refine zw_getfield 36 f129_33 rfl g129_83_12 (mb_52 x) rfl ?_
  refine zw_iload_n 37 f129_36 rfl rfl ?_
  refine zw_iconst 0 38 f129_37 rfl (by decide +kernel) ?_
  refine zw_iastoreS 2 39 f129_38 rfl (mb_74 x) (by decide +kernel) (by decide +kernel) (by decide +kernel) rfl ?_
  refine zw_iinc 3 [(1, .int 3), (0, .ref 52)] 42 f129_39 rfl rfl (by decide +kernel) (by decide +kernel) rfl ?_
  refine zw_goto 12 f129_42 (by decide +kernel) ?_
  refine zw_iload_n 13 f129_12 rfl rfl ?_
  refine zw_bipush 8 15 f129_13 rfl (by decide +kernel) ?_
  refine zw_ic_ge_f 18 45 f129_15 (by decide +kernel) rfl (by decide +kernel) ?_
  refine zw_aload_n 19 f129_18 rfl rfl ?_
  refine zw_getfield 22 f129_19 rfl g129_77_12 (mb_52 x) rfl ?_
  refine zw_iload_n 23 f129_22 rfl rfl ?_
  refine zw_iconst 0 24 f129_23 rfl (by decide +kernel) ?_
  refine zw_iastoreS 3 25 f129_24 rfl (mb_72 x) (by decide +kernel) (by decide +kernel) (by decide +kernel) rfl ?_
  refine zw_aload_n 26 f129_25 rfl rfl ?_
  refine zw_getfield 29 f129_26 rfl g129_80_12 (mb_52 x) rfl ?_
  refine zw_iload_n 30 f129_29 rfl rfl ?_
  refine zw_iconst 0 31 f129_30 rfl (by decide +kernel) ?_
  refine zw_iastoreS 3 32 f129_31 rfl (mb_73 x) (by decide +kernel) (by decide +kernel) (by decide +kernel) rfl ?_
  refine zw_aload_n 33 f129_32 rfl rfl ?_
  refine zw_getfield 36 f129_33 rfl g129_83_12 (mb_52 x) rfl ?_
  refine zw_iload_n 37 f129_36 rfl rfl ?_
  refine zw_iconst 0 38 f129_37 rfl (by decide +kernel) ?_
  refine zw_iastoreS 3 39 f129_38 rfl (mb_74 x) (by decide +kernel) (by decide +kernel) (by decide +kernel) rfl ?_
  refine zw_iinc 4 [(1, .int 4), (0, .ref 52)] 42 f129_39 rfl rfl (by decide +kernel) (by decide +kernel) rfl ?_
  refine zw_goto 12 f129_42 (by decide +kernel) ?_
  refine zw_iload_n 13 f129_12 rfl rfl ?_
  refine zw_bipush 8 15 f129_13 rfl (by decide +kernel) ?_
  refine zw_ic_ge_f 18 45 f129_15 (by decide +kernel) rfl (by decide +kernel) ?_
  refine zw_aload_n 19 f129_18 rfl rfl ?_
  refine zw_getfield 22 f129_19 rfl g129_77_12 (mb_52 x) rfl ?_
  refine zw_iload_n 23 f129_22 rfl rfl ?_
  refine zw_iconst 0 24 f129_23 rfl (by decide +kernel) ?_
  refine zw_iastoreS 4 25 f129_24 rfl (mb_72 x) (by decide +kernel) (by decide +kernel) (by decide +kernel) rfl ?_
  refine zw_aload_n 26 f129_25 rfl rfl ?_
  refine zw_getfield 29 f129_26 rfl g129_80_12 (mb_52 x) rfl ?_
  refine zw_iload_n 30 f129_29 rfl rfl ?_
  refine zw_iconst 0 31 f129_30 rfl (by decide +kernel) ?_
  refine zw_iastoreS 4 32 f129_31 rfl (mb_73 x) (by decide +kernel) (by decide +kernel) (by decide +kernel) rfl ?_
  refine zw_aload_n 33 f129_32 rfl rfl ?_
  refine zw_getfield 36 f129_33 rfl g129_83_12 (mb_52 x) rfl ?_
  refine zw_iload_n 37 f129_36 rfl rfl ?_
  refine zw_iconst 0 38 f129_37 rfl (by decide +kernel) ?_
  refine zw_iastoreS 4 39 f129_38 rfl (mb_74 x) (by decide +kernel) (by decide +kernel) (by decide +kernel) rfl ?_
  refine zw_iinc 5 [(1, .int 5), (0, .ref 52)] 42 f129_39 rfl rfl (by decide +kernel) (by decide +kernel) rfl ?_
  refine zw_goto 12 f129_42 (by decide +kernel) ?_
  refine zw_iload_n 13 f129_12 rfl rfl ?_
  refine zw_bipush 8 15 f129_13 rfl (by decide +kernel) ?_
  refine zw_ic_ge_f 18 45 f129_15 (by decide +kernel) rfl (by decide +kernel) ?_
  refine zw_aload_n 19 f129_18 rfl rfl ?_
  refine zw_getfield 22 f129_19 rfl g129_77_12 (mb_52 x) rfl ?_
  refine zw_iload_n 23 f129_22 rfl rfl ?_
  refine zw_iconst 0 24 f129_23 rfl (by decide +kernel) ?_
  refine zw_iastoreS 5 25 f129_24 rfl (mb_72 x) (by decide +kernel) (by decide +kernel) (by decide +kernel) rfl ?_
  refine zw_aload_n 26 f129_25 rfl rfl ?_
  refine zw_getfield 29 f129_26 rfl g129_80_12 (mb_52 x) rfl ?_
  refine zw_iload_n 30 f129_29 rfl rfl ?_
  refine zw_iconst 0 31 f129_30 rfl (by decide +kernel) ?_
  refine zw_iastoreS 5 32 f129_31 rfl (mb_73 x) (by decide +kernel) (by decide +kernel) (by decide +kernel) rfl ?_
  refine zw_aload_n 33 f129_32 rfl rfl ?_
  refine zw_getfield 36 f129_33 rfl g129_83_12 (mb_52 x) rfl ?_
  refine zw_iload_n 37 f129_36 rfl rfl ?_
  refine zw_iconst 0 38 f129_37 rfl (by decide +kernel) ?_
  refine zw_iastoreS 5 39 f129_38 rfl (mb_74 x) (by decide +kernel) (by decide +kernel) (by decide +kernel) rfl ?_
  refine zw_iinc 6 [(1, .int 6), (0, .ref 52)] 42 f129_39 rfl rfl (by decide +kernel) (by decide +kernel) rfl ?_
  refine zw_goto 12 f129_42 (by decide +kernel) ?_
  refine zw_iload_n 13 f129_12 rfl rfl ?_
  refine zw_bipush 8 15 f129_13 rfl (by decide +kernel) ?_
  refine zw_ic_ge_f 18 45 f129_15 (by decide +kernel) rfl (by decide +kernel) ?_
  refine zw_aload_n 19 f129_18 rfl rfl ?_
  refine zw_getfield 22 f129_19 rfl g129_77_12 (mb_52 x) rfl ?_
  refine zw_iload_n 23 f129_22 rfl rfl ?_
  refine zw_iconst 0 24 f129_23 rfl (by decide +kernel) ?_
  refine zw_iastoreS 6 25 f129_24 rfl (mb_72 x) (by decide +kernel) (by decide +kernel) (by decide +kernel) rfl ?_
  refine zw_aload_n 26 f129_25 rfl rfl ?_
  refine zw_getfield 29 f129_26 rfl g129_80_12 (mb_52 x) rfl ?_
  refine zw_iload_n 30 f129_29 rfl rfl ?_
  refine zw_iconst 0 31 f129_30 rfl (by decide +kernel) ?_
  refine zw_iastoreS 6 32 f129_31 rfl (mb_73 x) (by decide +kernel) (by decide +kernel) (by decide +kernel) rfl ?_
  refine zw_aload_n 33 f129_32 rfl rfl ?_
  refine zw_getfield 36 f129_33 rfl g129_83_12 (mb_52 x) rfl ?_
  refine zw_iload_n 37 f129_36 rfl rfl ?_
  refine zw_iconst 0 38 f129_37 rfl (by decide +kernel) ?_
  refine zw_iastoreS 6 39 f129_38 rfl (mb_74 x) (by decide +kernel) (by decide +kernel) (by decide +kernel) rfl ?_
  refine zw_iinc 7 [(1, .int 7), (0, .ref 52)] 42 f129_39 rfl rfl (by decide +kernel) (by decide +kernel) rfl ?_
  refine zw_goto 12 f129_42 (by decide +kernel) ?_
  refine zw_iload_n 13 f129_12 rfl rfl ?_
  refine zw_bipush 8 15 f129_13 rfl (by decide +kernel) ?_
  refine zw_ic_ge_f 18 45 f129_15 (by decide +kernel) rfl (by decide +kernel) ?_
  refine zw_aload_n 19 f129_18 rfl rfl ?_
  refine zw_getfield 22 f129_19 rfl g129_77_12 (mb_52 x) rfl ?_
  refine zw_iload_n 23 f129_22 rfl rfl ?_
  refine zw_iconst 0 24 f129_23 rfl (by decide +kernel) ?_
  refine zw_iastoreS 7 25 f129_24 rfl (mb_72 x) (by decide +kernel) (by decide +kernel) (by decide +kernel) rfl ?_
  refine zw_aload_n 26 f129_25 rfl rfl ?_
  refine zw_getfield 29 f129_26 rfl g129_80_12 (mb_52 x) rfl ?_
  refine zw_iload_n 30 f129_29 rfl rfl ?_
  refine zw_iconst 0 31 f129_30 rfl (by decide +kernel) ?_
  refine zw_iastoreS 7 32 f129_31 rfl (mb_73 x) (by decide +kernel) (by decide +kernel) (by decide +kernel) rfl ?_
  refine zw_aload_n 33 f129_32 rfl rfl ?_
  refine zw_getfield 36 f129_33 rfl g129_83_12 (mb_52 x) rfl ?_
  refine zw_iload_n 37 f129_36 rfl rfl ?_
  refine zw_iconst 0 38 f129_37 rfl (by decide +kernel) ?_
  refine zw_iastoreS 7 39 f129_38 rfl (mb_74 x) (by decide +kernel) (by decide +kernel) (by decide +kernel) rfl ?_
  refine zw_iinc 8 [(1, .int 8), (0, .ref 52)] 42 f129_39 rfl rfl (by decide +kernel) (by decide +kernel) rfl ?_
  refine zw_goto 12 f129_42 (by decide +kernel) ?_
  refine zw_iload_n 13 f129_12 rfl rfl ?_
  refine zw_bipush 8 15 f129_13 rfl (by decide +kernel) ?_
  refine zw_ic_ge_t 45 f129_15 (by decide +kernel) (by decide +kernel) ?_
  refine zw_iconst 0 46 f129_45 rfl (by decide +kernel) ?_
  refine zw_istore_n [(1, .int 0), (0, .ref 52)] 47 f129_46 rfl (by decide +kernel) rfl ?_
  refine zw_iload_n 48 f129_47 rfl rfl ?_
  refine zw_aload_n 49 f129_48 rfl rfl ?_
  refine zw_getfield 52 f129_49 rfl g129_121_12 (mb_52 x) rfl ?_
  refine zw_ic_ge_t 135 f129_52 (by decide +kernel) (by decide +kernel) ?_
  refine zw_iconst 0 136 f129_135 rfl (by decide +kernel) ?_
  refine zw_istore_n [(1, .int 0), (0, .ref 52)] 137 f129_136 rfl (by decide +kernel) rfl ?_
  refine zw_iload_n 138 f129_137 rfl rfl ?_
  refine zw_aload_n 139 f129_138 rfl rfl ?_
  refine zw_getfield 142 f129_139 rfl g129_114_12 (mb_52 x) rfl ?_
  refine zw_ic_ge_t 156 f129_142 (by decide +kernel) (by decide +kernel) ?_
  refine zw_vreturn f129_156 r129 u129 ⟨rfl, ?_⟩
  refine zw_aload_n 5 f132_4 rfl rfl ?_
  refine zw_iconst 1 6 f132_5 rfl (by decide +kernel) ?_
  refine zw_putfield 9 f132_6 rfl g132_142_12 (mb_52 x) rfl (zg_lt rfl) (by decide +kernel) ?_
  refine zw_iconst 0 10 f132_9 rfl (by decide +kernel) ?_
  refine zw_istore_n [(1, .int 0), (0, .ref 52)] 11 f132_10 rfl (by decide +kernel) rfl ?_
  refine zw_iload_n 12 f132_11 rfl rfl ?_
  refine zw_aload_n 13 f132_12 rfl rfl ?_
  refine zw_getfield 16 f132_13 rfl g132_114_12 (zg_eq (mb_52 x)) (zg_ne rfl rfl) ?_
  refine zw_ic_ge_t 179 f132_16 (by decide +kernel) (by decide +kernel) ?_
  refine zw_vreturn f132_179 r132 u132 ⟨rfl, ?_⟩
  refine zw_aload_n 49 f152_48 rfl rfl ?_
  refine zw_getfield 52 f152_49 rfl g152_142_12 (zg_eq (mb_52 x)) (zg_eq rfl) ?_
  refine zw_if_ne_t 89 f152_52 (by decide +kernel) (by decide +kernel) ?_
  refine zw_iconst 0 90 f152_89 rfl (by decide +kernel) ?_
  refine zw_istore [(5, .int 0), (4, .int 1), (3, .int 0), (2, .int 0), (0, .ref 52), (1, .int 0)] 92 f152_90 rfl (by decide +kernel) rfl ?_
  refine zw_iload 94 f152_92 rfl rfl ?_
  refine zw_if_eq_t 108 f152_94 (by decide +kernel) (by decide +kernel) ?_
  refine zw_aload_n 109 f152_108 rfl rfl ?_
  refine zw_iload_n 110 f152_109 rfl rfl ?_
  refine zw_i2l 0 111 f152_110 rfl (by decide +kernel) ?_
  refine zw_virtual_i 114 0 0 [.ref 52, .long 0] [(0, .ref 52), (1, .long 0)] f152_111 rfl n152_235 k152_235_12 rfl (zg_eq (mb_52 x)) (by decide +kernel) (Nat.le_of_ble_eq_true rfl) rfl rfl (by decide +kernel) (by decide +kernel) rfl (Nat.le_of_ble_eq_true rfl) rfl ?_
  refine zw_aload_n 1 f151_0 rfl rfl ?_
  refine zw_virtual_v 4 0 0 [.ref 52] [(0, .ref 52)] f151_1 rfl n151_228 k151_228_12 rfl (zg_eq (mb_52 x)) (by decide +kernel) (Nat.le_of_ble_eq_true rfl) rfl rfl (by decide +kernel) (by decide +kernel) rfl (Nat.le_of_ble_eq_true rfl) rfl ?_
  refine zw_aload_n 1 f132_0 rfl rfl ?_
  refine zw_virtual_v 4 0 0 [.ref 52] [(0, .ref 52)] f132_1 rfl n132_151 k132_151_12 rfl (zg_eq (mb_52 x)) (by decide +kernel) (Nat.le_of_ble_eq_true rfl) rfl rfl (by decide +kernel) (by decide +kernel) rfl (Nat.le_of_ble_eq_true rfl) rfl ?_
  refine zw_aload_n 1 f129_0 rfl rfl ?_
  refine zw_iconst 0 2 f129_1 rfl (by decide +kernel) ?_
  refine zw_putfieldS 5 f129_2 rfl g129_127_12 (zg_eq (mb_52 x)) rfl (zg_ne rfl rfl) (by decide +kernel) ?_
  refine zw_aload_n 6 f129_5 rfl rfl ?_
  refine zw_iconst 0 7 f129_6 rfl (by decide +kernel) ?_
  refine zw_putfieldS 10 f129_7 rfl g129_124_12 (zg_eq (mb_52 x)) rfl (zg_ne rfl rfl) (by decide +kernel) ?_
  refine zw_iconst 0 11 f129_10 rfl (by decide +kernel) ?_
  refine zw_istore_n [(1, .int 0), (0, .ref 52)] 12 f129_11 rfl (by decide +kernel) rfl ?_
  refine zw_iload_n 13 f129_12 rfl rfl ?_
  refine zw_bipush 8 15 f129_13 rfl (by decide +kernel) ?_
  refine zw_ic_ge_f 18 45 f129_15 (by decide +kernel) rfl (by decide +kernel) ?_
  refine zw_aload_n 19 f129_18 rfl rfl ?_
  refine zw_getfield 22 f129_19 rfl g129_77_12 (zg_eq (mb_52 x)) (zg_ne rfl rfl) ?_
  refine zw_iload_n 23 f129_22 rfl rfl ?_
  refine zw_iconst 0 24 f129_23 rfl (by decide +kernel) ?_
  refine zw_iastoreS 0 25 f129_24 rfl (zg_ne rfl (mb_72 x)) (by decide +kernel) (by decide +kernel) (by decide +kernel) rfl ?_
  refine zw_aload_n 26 f129_25 rfl rfl ?_
  refine zw_getfield 29 f129_26 rfl g129_80_12 (zg_eq (mb_52 x)) (zg_ne rfl rfl) ?_
  refine zw_iload_n 30 f129_29 rfl rfl ?_
  refine zw_iconst 0 31 f129_30 rfl (by decide +kernel) ?_
  refine zw_iastoreS 0 32 f129_31 rfl (zg_ne rfl (mb_73 x)) (by decide +kernel) (by decide +kernel) (by decide +kernel) rfl ?_
  refine zw_aload_n 33 f129_32 rfl rfl ?_
  refine zw_getfield 36 f129_33 rfl g129_83_12 (zg_eq (mb_52 x)) (zg_ne rfl rfl) ?_
  refine zw_iload_n 37 f129_36 rfl rfl ?_
  refine zw_iconst 0 38 f129_37 rfl (by decide +kernel) ?_
  refine zw_iastoreS 0 39 f129_38 rfl (zg_ne rfl (mb_74 x)) (by decide +kernel) (by decide +kernel) (by decide +kernel) rfl ?_
  refine zw_iinc 1 [(1, .int 1), (0, .ref 52)] 42 f129_39 rfl rfl (by decide +kernel) (by decide +kernel) rfl ?_
  refine zw_goto 12 f129_42 (by decide +kernel) ?_
  refine zw_iload_n 13 f129_12 rfl rfl ?_
  refine zw_bipush 8 15 f129_13 rfl (by decide +kernel) ?_
  refine zw_ic_ge_f 18 45 f129_15 (by decide +kernel) rfl (by decide +kernel) ?_
  refine zw_aload_n 19 f129_18 rfl rfl ?_
  refine zw_getfield 22 f129_19 rfl g129_77_12 (zg_eq (mb_52 x)) (zg_ne rfl rfl) ?_
  refine zw_iload_n 23 f129_22 rfl rfl ?_
  refine zw_iconst 0 24 f129_23 rfl (by decide +kernel) ?_
  refine zw_iastoreS 1 25 f129_24 rfl (zg_ne rfl (mb_72 x)) (by decide +kernel) (by decide +kernel) (by decide +kernel) rfl ?_
  refine zw_aload_n 26 f129_25 rfl rfl ?_
  refine zw_getfield 29 f129_26 rfl g129_80_12 (zg_eq (mb_52 x)) (zg_ne rfl rfl) ?_
  refine zw_iload_n 30 f129_29 rfl rfl ?_
  refine zw_iconst 0 31 f129_30 rfl (by decide +kernel) ?_
  refine zw_iastoreS 1 32 f129_31 rfl (zg_ne rfl (mb_73 x)) (by decide +kernel) (by decide +kernel) (by decide +kernel) rfl ?_
  refine zw_aload_n 33 f129_32 rfl rfl ?_
  refine zw_getfield 36 f129_33 rfl g129_83_12 (zg_eq (mb_52 x)) (zg_ne rfl rfl) ?_
  refine zw_iload_n 37 f129_36 rfl rfl ?_
  refine zw_iconst 0 38 f129_37 rfl (by decide +kernel) ?_
  refine zw_iastoreS 1 39 f129_38 rfl (zg_ne rfl (mb_74 x)) (by decide +kernel) (by decide +kernel) (by decide +kernel) rfl ?_
  refine zw_iinc 2 [(1, .int 2), (0, .ref 52)] 42 f129_39 rfl rfl (by decide +kernel) (by decide +kernel) rfl ?_
  refine zw_goto 12 f129_42 (by decide +kernel) ?_
  refine zw_iload_n 13 f129_12 rfl rfl ?_
  refine zw_bipush 8 15 f129_13 rfl (by decide +kernel) ?_
  refine zw_ic_ge_f 18 45 f129_15 (by decide +kernel) rfl (by decide +kernel) ?_
  refine zw_aload_n 19 f129_18 rfl rfl ?_
  refine zw_getfield 22 f129_19 rfl g129_77_12 (zg_eq (mb_52 x)) (zg_ne rfl rfl) ?_
  refine zw_iload_n 23 f129_22 rfl rfl ?_
  refine zw_iconst 0 24 f129_23 rfl (by decide +kernel) ?_
  refine zw_iastoreS 2 25 f129_24 rfl (zg_ne rfl (mb_72 x)) (by decide +kernel) (by decide +kernel) (by decide +kernel) rfl ?_
  refine zw_aload_n 26 f129_25 rfl rfl ?_
  refine zw_getfield 29 f129_26 rfl g129_80_12 (zg_eq (mb_52 x)) (zg_ne rfl rfl) ?_
  refine zw_iload_n 30 f129_29 rfl rfl ?_
  refine zw_iconst 0 31 f129_30 rfl (by decide +kernel) ?_
  refine zw_iastoreS 2 32 f129_31 rfl (zg_ne rfl (mb_73 x)) (by decide +kernel) (by decide +kernel) (by decide +kernel) rfl ?_
  refine zw_aload_n 33 f129_32 rfl rfl ?_
  refine zw_getfield 36 f129_33 rfl g129_83_12 (zg_eq (mb_52 x)) (zg_ne rfl rfl) ?_
  refine zw_iload_n 37 f129_36 rfl rfl ?_
  refine zw_iconst 0 38 f129_37 rfl (by decide +kernel) ?_
  refine zw_iastoreS 2 39 f129_38 rfl (zg_ne rfl (mb_74 x)) (by decide +kernel) (by decide +kernel) (by decide +kernel) rfl ?_
  refine zw_iinc 3 [(1, .int 3), (0, .ref 52)] 42 f129_39 rfl rfl (by decide +kernel) (by decide +kernel) rfl ?_
  refine zw_goto 12 f129_42 (by decide +kernel) ?_
  refine zw_iload_n 13 f129_12 rfl rfl ?_
  refine zw_bipush 8 15 f129_13 rfl (by decide +kernel) ?_
  refine zw_ic_ge_f 18 45 f129_15 (by decide +kernel) rfl (by decide +kernel) ?_
  refine zw_aload_n 19 f129_18 rfl rfl ?_
  refine zw_getfield 22 f129_19 rfl g129_77_12 (zg_eq (mb_52 x)) (zg_ne rfl rfl) ?_
  refine zw_iload_n 23 f129_22 rfl rfl ?_
  refine zw_iconst 0 24 f129_23 rfl (by decide +kernel) ?_
  refine zw_iastoreS 3 25 f129_24 rfl (zg_ne rfl (mb_72 x)) (by decide +kernel) (by decide +kernel) (by decide +kernel) rfl ?_
  refine zw_aload_n 26 f129_25 rfl rfl ?_
  refine zw_getfield 29 f129_26 rfl g129_80_12 (zg_eq (mb_52 x)) (zg_ne rfl rfl) ?_
  refine zw_iload_n 30 f129_29 rfl rfl ?_
  refine zw_iconst 0 31 f129_30 rfl (by decide +kernel) ?_
  refine zw_iastoreS 3 32 f129_31 rfl (zg_ne rfl (mb_73 x)) (by decide +kernel) (by decide +kernel) (by decide +kernel) rfl ?_
  refine zw_aload_n 33 f129_32 rfl rfl ?_
  refine zw_getfield 36 f129_33 rfl g129_83_12 (zg_eq (mb_52 x)) (zg_ne rfl rfl) ?_
  refine zw_iload_n 37 f129_36 rfl rfl ?_
  refine zw_iconst 0 38 f129_37 rfl (by decide +kernel) ?_
  refine zw_iastoreS 3 39 f129_38 rfl (zg_ne rfl (mb_74 x)) (by decide +kernel) (by decide +kernel) (by decide +kernel) rfl ?_
  refine zw_iinc 4 [(1, .int 4), (0, .ref 52)] 42 f129_39 rfl rfl (by decide +kernel) (by decide +kernel) rfl ?_
  refine zw_goto 12 f129_42 (by decide +kernel) ?_
  refine zw_iload_n 13 f129_12 rfl rfl ?_
  refine zw_bipush 8 15 f129_13 rfl (by decide +kernel) ?_
  refine zw_ic_ge_f 18 45 f129_15 (by decide +kernel) rfl (by decide +kernel) ?_
  refine zw_aload_n 19 f129_18 rfl rfl ?_
  refine zw_getfield 22 f129_19 rfl g129_77_12 (zg_eq (mb_52 x)) (zg_ne rfl rfl) ?_
  refine zw_iload_n 23 f129_22 rfl rfl ?_
  refine zw_iconst 0 24 f129_23 rfl (by decide +kernel) ?_
  refine zw_iastoreS 4 25 f129_24 rfl (zg_ne rfl (mb_72 x)) (by decide +kernel) (by decide +kernel) (by decide +kernel) rfl ?_
  refine zw_aload_n 26 f129_25 rfl rfl ?_
  refine zw_getfield 29 f129_26 rfl g129_80_12 (zg_eq (mb_52 x)) (zg_ne rfl rfl) ?_
  refine zw_iload_n 30 f129_29 rfl rfl ?_
  refine zw_iconst 0 31 f129_30 rfl (by decide +kernel) ?_
  refine zw_iastoreS 4 32 f129_31 rfl (zg_ne rfl (mb_73 x)) (by decide +kernel) (by decide +kernel) (by decide +kernel) rfl ?_
  refine zw_aload_n 33 f129_32 rfl rfl ?_
  refine zw_getfield 36 f129_33 rfl g129_83_12 (zg_eq (mb_52 x)) (zg_ne rfl rfl) ?_
  refine zw_iload_n 37 f129_36 rfl rfl ?_
  refine zw_iconst 0 38 f129_37 rfl (by decide +kernel) ?_
  refine zw_iastoreS 4 39 f129_38 rfl (zg_ne rfl (mb_74 x)) (by decide +kernel) (by decide +kernel) (by decide +kernel) rfl ?_
  refine zw_iinc 5 [(1, .int 5), (0, .ref 52)] 42 f129_39 rfl rfl (by decide +kernel) (by decide +kernel) rfl ?_
  refine zw_goto 12 f129_42 (by decide +kernel) ?_
  refine zw_iload_n 13 f129_12 rfl rfl ?_
  refine zw_bipush 8 15 f129_13 rfl (by decide +kernel) ?_
  refine zw_ic_ge_f 18 45 f129_15 (by decide +kernel) rfl (by decide +kernel) ?_
  refine zw_aload_n 19 f129_18 rfl rfl ?_
  refine zw_getfield 22 f129_19 rfl g129_77_12 (zg_eq (mb_52 x)) (zg_ne rfl rfl) ?_
  refine zw_iload_n 23 f129_22 rfl rfl ?_
  refine zw_iconst 0 24 f129_23 rfl (by decide +kernel) ?_
  refine zw_iastoreS 5 25 f129_24 rfl (zg_ne rfl (mb_72 x)) (by decide +kernel) (by decide +kernel) (by decide +kernel) rfl ?_
  refine zw_aload_n 26 f129_25 rfl rfl ?_
  refine zw_getfield 29 f129_26 rfl g129_80_12 (zg_eq (mb_52 x)) (zg_ne rfl rfl) ?_
  refine zw_iload_n 30 f129_29 rfl rfl ?_
  refine zw_iconst 0 31 f129_30 rfl (by decide +kernel) ?_
  refine zw_iastoreS 5 32 f129_31 rfl (zg_ne rfl (mb_73 x)) (by decide +kernel) (by decide +kernel) (by decide +kernel) rfl ?_
  refine zw_aload_n 33 f129_32 rfl rfl ?_
  refine zw_getfield 36 f129_33 rfl g129_83_12 (zg_eq (mb_52 x)) (zg_ne rfl rfl) ?_
  refine zw_iload_n 37 f129_36 rfl rfl ?_
  refine zw_iconst 0 38 f129_37 rfl (by decide +kernel) ?_
  refine zw_iastoreS 5 39 f129_38 rfl (zg_ne rfl (mb_74 x)) (by decide +kernel) (by decide +kernel) (by decide +kernel) rfl ?_
  refine zw_iinc 6 [(1, .int 6), (0, .ref 52)] 42 f129_39 rfl rfl (by decide +kernel) (by decide +kernel) rfl ?_
  refine zw_goto 12 f129_42 (by decide +kernel) ?_
  refine zw_iload_n 13 f129_12 rfl rfl ?_
  refine zw_bipush 8 15 f129_13 rfl (by decide +kernel) ?_
  refine zw_ic_ge_f 18 45 f129_15 (by decide +kernel) rfl (by decide +kernel) ?_
  refine zw_aload_n 19 f129_18 rfl rfl ?_
  refine zw_getfield 22 f129_19 rfl g129_77_12 (zg_eq (mb_52 x)) (zg_ne rfl rfl) ?_
  refine zw_iload_n 23 f129_22 rfl rfl ?_
  refine zw_iconst 0 24 f129_23 rfl (by decide +kernel) ?_
  refine zw_iastoreS 6 25 f129_24 rfl (zg_ne rfl (mb_72 x)) (by decide +kernel) (by decide +kernel) (by decide +kernel) rfl ?_
  refine zw_aload_n 26 f129_25 rfl rfl ?_
  refine zw_getfield 29 f129_26 rfl g129_80_12 (zg_eq (mb_52 x)) (zg_ne rfl rfl) ?_
  refine zw_iload_n 30 f129_29 rfl rfl ?_
  refine zw_iconst 0 31 f129_30 rfl (by decide +kernel) ?_
  refine zw_iastoreS 6 32 f129_31 rfl (zg_ne rfl (mb_73 x)) (by decide +kernel) (by decide +kernel) (by decide +kernel) rfl ?_
  refine zw_aload_n 33 f129_32 rfl rfl ?_
  refine zw_getfield 36 f129_33 rfl g129_83_12 (zg_eq (mb_52 x)) (zg_ne rfl rfl) ?_
  refine zw_iload_n 37 f129_36 rfl rfl ?_
  refine zw_iconst 0 38 f129_37 rfl (by decide +kernel) ?_
  refine zw_iastoreS 6 39 f129_38 rfl (zg_ne rfl (mb_74 x)) (by decide +kernel) (by decide +kernel) (by decide +kernel) rfl ?_
  refine zw_iinc 7 [(1, .int 7), (0, .ref 52)] 42 f129_39 rfl rfl (by decide +kernel) (by decide +kernel) rfl ?_
  refine zw_goto 12 f129_42 (by decide +kernel) ?_
  refine zw_iload_n 13 f129_12 rfl rfl ?_
  refine zw_bipush 8 15 f129_13 rfl (by decide +kernel) ?_
  refine zw_ic_ge_f 18 45 f129_15 (by decide +kernel) rfl (by decide +kernel) ?_
  refine zw_aload_n 19 f129_18 rfl rfl ?_
  refine zw_getfield 22 f129_19 rfl g129_77_12 (zg_eq (mb_52 x)) (zg_ne rfl rfl) ?_
  refine zw_iload_n 23 f129_22 rfl rfl ?_
  refine zw_iconst 0 24 f129_23 rfl (by decide +kernel) ?_
  refine zw_iastoreS 7 25 f129_24 rfl (zg_ne rfl (mb_72 x)) (by decide +kernel) (by decide +kernel) (by decide +kernel) rfl ?_
  refine zw_aload_n 26 f129_25 rfl rfl ?_
  refine zw_getfield 29 f129_26 rfl g129_80_12 (zg_eq (mb_52 x)) (zg_ne rfl rfl) ?_
  refine zw_iload_n 30 f129_29 rfl rfl ?_
  refine zw_iconst 0 31 f129_30 rfl (by decide +kernel) ?_
  refine zw_iastoreS 7 32 f129_31 rfl (zg_ne rfl (mb_73 x)) (by decide +kernel) (by decide +kernel) (by decide +kernel) rfl ?_
  refine zw_aload_n 33 f129_32 rfl rfl ?_
  refine zw_getfield 36 f129_33 rfl g129_83_12 (zg_eq (mb_52 x)) (zg_ne rfl rfl) ?_
  refine zw_iload_n 37 f129_36 rfl rfl ?_
  refine zw_iconst 0 38 f129_37 rfl (by decide +kernel) ?_
  refine zw_iastoreS 7 39 f129_38 rfl (zg_ne rfl (mb_74 x)) (by decide +kernel) (by decide +kernel) (by decide +kernel) rfl ?_
  refine zw_iinc 8 [(1, .int 8), (0, .ref 52)] 42 f129_39 rfl rfl (by decide +kernel) (by decide +kernel) rfl ?_
  refine zw_goto 12 f129_42 (by decide +kernel) ?_
  refine zw_iload_n 13 f129_12 rfl rfl ?_
  refine zw_bipush 8 15 f129_13 rfl (by decide +kernel) ?_
  refine zw_ic_ge_t 45 f129_15 (by decide +kernel) (by decide +kernel) ?_
  refine zw_iconst 0 46 f129_45 rfl (by decide +kernel) ?_
  refine zw_istore_n [(1, .int 0), (0, .ref 52)] 47 f129_46 rfl (by decide +kernel) rfl ?_
  refine zw_iload_n 48 f129_47 rfl rfl ?_
  refine zw_aload_n 49 f129_48 rfl rfl ?_
  refine zw_getfield 52 f129_49 rfl g129_121_12 (zg_eq (mb_52 x)) (zg_ne rfl rfl) ?_
  refine zw_ic_ge_t 135 f129_52 (by decide +kernel) (by decide +kernel) ?_
  refine zw_iconst 0 136 f129_135 rfl (by decide +kernel) ?_
  refine zw_istore_n [(1, .int 0), (0, .ref 52)] 137 f129_136 rfl (by decide +kernel) rfl ?_
  refine zw_iload_n 138 f129_137 rfl rfl ?_
  refine zw_aload_n 139 f129_138 rfl rfl ?_
  refine zw_getfield 142 f129_139 rfl g129_114_12 (zg_eq (mb_52 x)) (zg_ne rfl rfl) ?_
  refine zw_ic_ge_t 156 f129_142 (by decide +kernel) (by decide +kernel) ?_
  refine zw_vreturn f129_156 r129 u129 ⟨rfl, ?_⟩
  refine zw_aload_n 5 f132_4 rfl rfl ?_
  refine zw_iconst 1 6 f132_5 rfl (by decide +kernel) ?_
  refine zw_putfieldS 9 f132_6 rfl g132_142_12 (zg_eq (mb_52 x)) rfl (zg_eq rfl) (by decide +kernel) ?_
  refine zw_iconst 0 10 f132_9 rfl (by decide +kernel) ?_
  refine zw_istore_n [(1, .int 0), (0, .ref 52)] 11 f132_10 rfl (by decide +kernel) rfl ?_
  refine zw_iload_n 12 f132_11 rfl rfl ?_
  refine zw_aload_n 13 f132_12 rfl rfl ?_
  refine zw_getfield 16 f132_13 rfl g132_114_12 (zg_eq (mb_52 x)) (zg_ne rfl rfl) ?_
  refine zw_ic_ge_t 179 f132_16 (by decide +kernel) (by decide +kernel) ?_
  refine zw_vreturn f132_179 r132 u132 ⟨rfl, ?_⟩
  refine zw_aload_n 5 f151_4 rfl rfl ?_
  refine zw_getfield 8 f151_5 rfl g151_142_12 (zg_eq (mb_52 x)) (zg_eq rfl) ?_
  refine zw_if_ne_t 40 f151_8 (by decide +kernel) (by decide +kernel) ?_
  refine zw_iconst 0 41 f151_40 rfl (by decide +kernel) ?_
  refine zw_ireturn f151_41 r151 u151 ⟨_, rfl, ?_⟩
  refine zw_istore [(4, .int 0), (5, .int 0), (3, .int 0), (2, .int 0), (0, .ref 52), (1, .int 0)] 116 f152_114 rfl (by decide +kernel) rfl ?_
  refine zw_iinc 1 [(3, .int 1), (4, .int 0), (5, .int 0), (2, .int 0), (0, .ref 52), (1, .int 0)] 119 f152_116 rfl rfl (by decide +kernel) (by decide +kernel) rfl ?_
  refine zw_goto 38 f152_119 (by decide +kernel) ?_
  refine zw_iload 40 f152_38 rfl rfl ?_
  refine zw_iconst 1 41 f152_40 rfl (by decide +kernel) ?_
  refine zw_ic_ne_t 122 f152_41 (by decide +kernel) (by decide +kernel) ?_
  refine zw_iload 124 f152_122 rfl rfl ?_
  refine zw_iconst (-1) 125 f152_124 rfl (by decide +kernel) ?_
  refine zw_ic_ne_t 134 f152_125 (by decide +kernel) (by decide +kernel) ?_
  refine zw_aload_n 135 f152_134 rfl rfl ?_
  refine zw_virtual_v 138 0 0 [.ref 52] [(0, .ref 52)] f152_135 rfl n152_228 k152_228_12 rfl (zg_eq (mb_52 x)) (by decide +kernel) (Nat.le_of_ble_eq_true rfl) rfl rfl (by decide +kernel) (by decide +kernel) rfl (Nat.le_of_ble_eq_true rfl) rfl ?_
  refine zw_aload_n 1 f132_0 rfl rfl ?_
  refine zw_virtual_v 4 0 0 [.ref 52] [(0, .ref 52)] f132_1 rfl n132_151 k132_151_12 rfl (zg_eq (mb_52 x)) (by decide +kernel) (Nat.le_of_ble_eq_true rfl) rfl rfl (by decide +kernel) (by decide +kernel) rfl (Nat.le_of_ble_eq_true rfl) rfl ?_
  refine zw_aload_n 1 f129_0 rfl rfl ?_
  refine zw_iconst 0 2 f129_1 rfl (by decide +kernel) ?_
  refine zw_putfieldS 5 f129_2 rfl g129_127_12 (zg_eq (mb_52 x)) rfl (zg_ne rfl rfl) (by decide +kernel) ?_
  refine zw_aload_n 6 f129_5 rfl rfl ?_
  refine zw_iconst 0 7 f129_6 rfl (by decide +kernel) ?_
  refine zw_putfieldS 10 f129_7 rfl g129_124_12 (zg_eq (mb_52 x)) rfl (zg_ne rfl rfl) (by decide +kernel) ?_
  refine zw_iconst 0 11 f129_10 rfl (by decide +kernel) ?_
  refine zw_istore_n [(1, .int 0), (0, .ref 52)] 12 f129_11 rfl (by decide +kernel) rfl ?_
  refine zw_iload_n 13 f129_12 rfl rfl ?_
  refine zw_bipush 8 15 f129_13 rfl (by decide +kernel) ?_
  refine zw_ic_ge_f 18 45 f129_15 (by decide +kernel) rfl (by decide +kernel) ?_
  refine zw_aload_n 19 f129_18 rfl rfl ?_
  refine zw_getfield 22 f129_19 rfl g129_77_12 (zg_eq (mb_52 x)) (zg_ne rfl rfl) ?_
  refine zw_iload_n 23 f129_22 rfl rfl ?_
  refine zw_iconst 0 24 f129_23 rfl (by decide +kernel) ?_
  refine zw_iastoreS 0 25 f129_24 rfl (zg_ne rfl (mb_72 x)) (by decide +kernel) (by decide +kernel) (by decide +kernel) rfl ?_
  refine zw_aload_n 26 f129_25 rfl rfl ?_
  refine zw_getfield 29 f129_26 rfl g129_80_12 (zg_eq (mb_52 x)) (zg_ne rfl rfl) ?_
  refine zw_iload_n 30 f129_29 rfl rfl ?_
  refine zw_iconst 0 31 f129_30 rfl (by decide +kernel) ?_
  refine zw_iastoreS 0 32 f129_31 rfl (zg_ne rfl (mb_73 x)) (by decide +kernel) (by decide +kernel) (by decide +kernel) rfl ?_
  refine zw_aload_n 33 f129_32 rfl rfl ?_
  refine zw_getfield 36 f129_33 rfl g129_83_12 (zg_eq (mb_52 x)) (zg_ne rfl rfl) ?_
  refine zw_iload_n 37 f129_36 rfl rfl ?_
  refine zw_iconst 0 38 f129_37 rfl (by decide +kernel) ?_
  refine zw_iastoreS 0 39 f129_38 rfl (zg_ne rfl (mb_74 x)) (by decide +kernel) (by decide +kernel) (by decide +kernel) rfl ?_
  refine zw_iinc 1 [(1, .int 1), (0, .ref 52)] 42 f129_39 rfl rfl (by decide +kernel) (by decide +kernel) rfl ?_
  refine zw_goto 12 f129_42 (by decide +kernel) ?_
  refine zw_iload_n 13 f129_12 rfl rfl ?_
  refine zw_bipush 8 15 f129_13 rfl (by decide +kernel) ?_
  refine zw_ic_ge_f 18 45 f129_15 (by decide +kernel) rfl (by decide +kernel) ?_
  refine zw_aload_n 19 f129_18 rfl rfl ?_
  refine zw_getfield 22 f129_19 rfl g129_77_12 (zg_eq (mb_52 x)) (zg_ne rfl rfl) ?_
  refine zw_iload_n 23 f129_22 rfl rfl ?_
  refine zw_iconst 0 24 f129_23 rfl (by decide +kernel) ?_
  refine zw_iastoreS 1 25 f129_24 rfl (zg_ne rfl (mb_72 x)) (by decide +kernel) (by decide +kernel) (by decide +kernel) rfl ?_
  refine zw_aload_n 26 f129_25 rfl rfl ?_
  refine zw_getfield 29 f129_26 rfl g129_80_12 (zg_eq (mb_52 x)) (zg_ne rfl rfl) ?_
  refine zw_iload_n 30 f129_29 rfl rfl ?_
  refine zw_iconst 0 31 f129_30 rfl (by decide +kernel) ?_
  refine zw_iastoreS 1 32 f129_31 rfl (zg_ne rfl (mb_73 x)) (by decide +kernel) (by decide +kernel) (by decide +kernel) rfl ?_
  refine zw_aload_n 33 f129_32 rfl rfl ?_
  refine zw_getfield 36 f129_33 rfl g129_83_12 (zg_eq (mb_52 x)) (zg_ne rfl rfl) ?_
  refine zw_iload_n 37 f129_36 rfl rfl ?_
  refine zw_iconst 0 38 f129_37 rfl (by decide +kernel) ?_
  refine zw_iastoreS 1 39 f129_38 rfl (zg_ne rfl (mb_74 x)) (by decide +kernel) (by decide +kernel) (by decide +kernel) rfl ?_
  refine zw_iinc 2 [(1, .int 2), (0, .ref 52)] 42 f129_39 rfl rfl (by decide +kernel) (by decide +kernel) rfl ?_
  refine zw_goto 12 f129_42 (by decide +kernel) ?_
  refine zw_iload_n 13 f129_12 rfl rfl ?_
  refine zw_bipush 8 15 f129_13 rfl (by decide +kernel) ?_
  refine zw_ic_ge_f 18 45 f129_15 (by decide +kernel) rfl (by decide +kernel) ?_
  refine zw_aload_n 19 f129_18 rfl rfl ?_
  refine zw_getfield 22 f129_19 rfl g129_77_12 (zg_eq (mb_52 x)) (zg_ne rfl rfl) ?_
  refine zw_iload_n 23 f129_22 rfl rfl ?_
  refine zw_iconst 0 24 f129_23 rfl (by decide +kernel) ?_
  refine zw_iastoreS 2 25 f129_24 rfl (zg_ne rfl (mb_72 x)) (by decide +kernel) (by decide +kernel) (by decide +kernel) rfl ?_
  refine zw_aload_n 26 f129_25 rfl rfl ?_
  refine zw_getfield 29 f129_26 rfl g129_80_12 (zg_eq (mb_52 x)) (zg_ne rfl rfl) ?_
  refine zw_iload_n 30 f129_29 rfl rfl ?_
  refine zw_iconst 0 31 f129_30 rfl (by decide +kernel) ?_
  refine zw_iastoreS 2 32 f129_31 rfl (zg_ne rfl (mb_73 x)) (by decide +kernel) (by decide +kernel) (by decide +kernel) rfl ?_
  refine zw_aload_n 33 f129_32 rfl rfl ?_
  refine zw_getfield 36 f129_33 rfl g129_83_12 (zg_eq (mb_52 x)) (zg_ne rfl rfl) ?_
  refine zw_iload_n 37 f129_36 rfl rfl ?_
  refine zw_iconst 0 38 f129_37 rfl (by decide +kernel) ?_
  refine zw_iastoreS 2 39 f129_38 rfl (zg_ne rfl (mb_74 x)) (by decide +kernel) (by decide +kernel) (by decide +kernel) rfl ?_
  refine zw_iinc 3 [(1, .int 3), (0, .ref 52)] 42 f129_39 rfl rfl (by decide +kernel) (by decide +kernel) rfl ?_
  refine zw_goto 12 f129_42 (by decide +kernel) ?_
  refine zw_iload_n 13 f129_12 rfl rfl ?_
  refine zw_bipush 8 15 f129_13 rfl (by decide +kernel) ?_
  refine zw_ic_ge_f 18 45 f129_15 (by decide +kernel) rfl (by decide +kernel) ?_
  refine zw_aload_n 19 f129_18 rfl rfl ?_
  refine zw_getfield 22 f129_19 rfl g129_77_12 (zg_eq (mb_52 x)) (zg_ne rfl rfl) ?_
  refine zw_iload_n 23 f129_22 rfl rfl ?_
  refine zw_iconst 0 24 f129_23 rfl (by decide +kernel) ?_
  refine zw_iastoreS 3 25 f129_24 rfl (zg_ne rfl (mb_72 x)) (by decide +kernel) (by decide +kernel) (by decide +kernel) rfl ?_
  refine zw_aload_n 26 f129_25 rfl rfl ?_
  refine zw_getfield 29 f129_26 rfl g129_80_12 (zg_eq (mb_52 x)) (zg_ne rfl rfl) ?_
  refine zw_iload_n 30 f129_29 rfl rfl ?_
  refine zw_iconst 0 31 f129_30 rfl (by decide +kernel) ?_
  refine zw_iastoreS 3 32 f129_31 rfl (zg_ne rfl (mb_73 x)) (by decide +kernel) (by decide +kernel) (by decide +kernel) rfl ?_
  refine zw_aload_n 33 f129_32 rfl rfl ?_
  refine zw_getfield 36 f129_33 rfl g129_83_12 (zg_eq (mb_52 x)) (zg_ne rfl rfl) ?_
  refine zw_iload_n 37 f129_36 rfl rfl ?_
  refine zw_iconst 0 38 f129_37 rfl (by decide +kernel) ?_
  refine zw_iastoreS 3 39 f129_38 rfl (zg_ne rfl (mb_74 x)) (by decide +kernel) (by decide +kernel) (by decide +kernel) rfl ?_
  refine zw_iinc 4 [(1, .int 4), (0, .ref 52)] 42 f129_39 rfl rfl (by decide +kernel) (by decide +kernel) rfl ?_
  refine zw_goto 12 f129_42 (by decide +kernel) ?_
  refine zw_iload_n 13 f129_12 rfl rfl ?_
  refine zw_bipush 8 15 f129_13 rfl (by decide +kernel) ?_
  refine zw_ic_ge_f 18 45 f129_15 (by decide +kernel) rfl (by decide +kernel) ?_
  refine zw_aload_n 19 f129_18 rfl rfl ?_
  refine zw_getfield 22 f129_19 rfl g129_77_12 (zg_eq (mb_52 x)) (zg_ne rfl rfl) ?_
  refine zw_iload_n 23 f129_22 rfl rfl ?_
  refine zw_iconst 0 24 f129_23 rfl (by decide +kernel) ?_
  refine zw_iastoreS 4 25 f129_24 rfl (zg_ne rfl (mb_72 x)) (by decide +kernel) (by decide +kernel) (by decide +kernel) rfl ?_
  refine zw_aload_n 26 f129_25 rfl rfl ?_
  refine zw_getfield 29 f129_26 rfl g129_80_12 (zg_eq (mb_52 x)) (zg_ne rfl rfl) ?_
  refine zw_iload_n 30 f129_29 rfl rfl ?_
  refine zw_iconst 0 31 f129_30 rfl (by decide +kernel) ?_
  refine zw_iastoreS 4 32 f129_31 rfl (zg_ne rfl (mb_73 x)) (by decide +kernel) (by decide +kernel) (by decide +kernel) rfl ?_
  refine zw_aload_n 33 f129_32 rfl rfl ?_
  refine zw_getfield 36 f129_33 rfl g129_83_12 (zg_eq (mb_52 x)) (zg_ne rfl rfl) ?_
  refine zw_iload_n 37 f129_36 rfl rfl ?_
  refine zw_iconst 0 38 f129_37 rfl (by decide +kernel) ?_
  refine zw_iastoreS 4 39 f129_38 rfl (zg_ne rfl (mb_74 x)) (by decide +kernel) (by decide +kernel) (by decide +kernel) rfl ?_
  refine zw_iinc 5 [(1, .int 5), (0, .ref 52)] 42 f129_39 rfl rfl (by decide +kernel) (by decide +kernel) rfl ?_
  refine zw_goto 12 f129_42 (by decide +kernel) ?_
  refine zw_iload_n 13 f129_12 rfl rfl ?_
  refine zw_bipush 8 15 f129_13 rfl (by decide +kernel) ?_
  refine zw_ic_ge_f 18 45 f129_15 (by decide +kernel) rfl (by decide +kernel) ?_
  refine zw_aload_n 19 f129_18 rfl rfl ?_
  refine zw_getfield 22 f129_19 rfl g129_77_12 (zg_eq (mb_52 x)) (zg_ne rfl rfl) ?_
  refine zw_iload_n 23 f129_22 rfl rfl ?_
  refine zw_iconst 0 24 f129_23 rfl (by decide +kernel) ?_
  refine zw_iastoreS 5 25 f129_24 rfl (zg_ne rfl (mb_72 x)) (by decide +kernel) (by decide +kernel) (by decide +kernel) rfl ?_
  refine zw_aload_n 26 f129_25 rfl rfl ?_
  refine zw_getfield 29 f129_26 rfl g129_80_12 (zg_eq (mb_52 x)) (zg_ne rfl rfl) ?_
  refine zw_iload_n 30 f129_29 rfl rfl ?_
  refine zw_iconst 0 31 f129_30 rfl (by decide +kernel) ?_
  refine zw_iastoreS 5 32 f129_31 rfl (zg_ne rfl (mb_73 x)) (by decide +kernel) (by decide +kernel) (by decide +kernel) rfl ?_
  refine zw_aload_n 33 f129_32 rfl rfl ?_
  refine zw_getfield 36 f129_33 rfl g129_83_12 (zg_eq (mb_52 x)) (zg_ne rfl rfl) ?_
  refine zw_iload_n 37 f129_36 rfl rfl ?_
  refine zw_iconst 0 38 f129_37 rfl (by decide +kernel) ?_
  refine zw_iastoreS 5 39 f129_38 rfl (zg_ne rfl (mb_74 x)) (by decide +kernel) (by decide +kernel) (by decide +kernel) rfl ?_
  refine zw_iinc 6 [(1, .int 6), (0, .ref 52)] 42 f129_39 rfl rfl (by decide +kernel) (by decide +kernel) rfl ?_
  refine zw_goto 12 f129_42 (by decide +kernel) ?_
  refine zw_iload_n 13 f129_12 rfl rfl ?_
  refine zw_bipush 8 15 f129_13 rfl (by decide +kernel) ?_
  refine zw_ic_ge_f 18 45 f129_15 (by decide +kernel) rfl (by decide +kernel) ?_
  refine zw_aload_n 19 f129_18 rfl rfl ?_
  refine zw_getfield 22 f129_19 rfl g129_77_12 (zg_eq (mb_52 x)) (zg_ne rfl rfl) ?_
  refine zw_iload_n 23 f129_22 rfl rfl ?_
  refine zw_iconst 0 24 f129_23 rfl (by decide +kernel) ?_
  refine zw_iastoreS 6 25 f129_24 rfl (zg_ne rfl (mb_72 x)) (by decide +kernel) (by decide +kernel) (by decide +kernel) rfl ?_
  refine zw_aload_n 26 f129_25 rfl rfl ?_
  refine zw_getfield 29 f129_26 rfl g129_80_12 (zg_eq (mb_52 x)) (zg_ne rfl rfl) ?_
  refine zw_iload_n 30 f129_29 rfl rfl ?_
  refine zw_iconst 0 31 f129_30 rfl (by decide +kernel) ?_
  refine zw_iastoreS 6 32 f129_31 rfl (zg_ne rfl (mb_73 x)) (by decide +kernel) (by decide +kernel) (by decide +kernel) rfl ?_
  refine zw_aload_n 33 f129_32 rfl rfl ?_
  refine zw_getfield 36 f129_33 rfl g129_83_12 (zg_eq (mb_52 x)) (zg_ne rfl rfl) ?_
  refine zw_iload_n 37 f129_36 rfl rfl ?_
  refine zw_iconst 0 38 f129_37 rfl (by decide +kernel) ?_
  refine zw_iastoreS 6 39 f129_38 rfl (zg_ne rfl (mb_74 x)) (by decide +kernel) (by decide +kernel) (by decide +kernel) rfl ?_
  refine zw_iinc 7 [(1, .int 7), (0, .ref 52)] 42 f129_39 rfl rfl (by decide +kernel) (by decide +kernel) rfl ?_
  refine zw_goto 12 f129_42 (by decide +kernel) ?_
  refine zw_iload_n 13 f129_12 rfl rfl ?_
  refine zw_bipush 8 15 f129_13 rfl (by decide +kernel) ?_
  refine zw_ic_ge_f 18 45 f129_15 (by decide +kernel) rfl (by decide +kernel) ?_
  refine zw_aload_n 19 f129_18 rfl rfl ?_
  refine zw_getfield 22 f129_19 rfl g129_77_12 (zg_eq (mb_52 x)) (zg_ne rfl rfl) ?_
  refine zw_iload_n 23 f129_22 rfl rfl ?_
  refine zw_iconst 0 24 f129_23 rfl (by decide +kernel) ?_
  refine zw_iastoreS 7 25 f129_24 rfl (zg_ne rfl (mb_72 x)) (by decide +kernel) (by decide +kernel) (by decide +kernel) rfl ?_
  refine zw_aload_n 26 f129_25 rfl rfl ?_
  refine zw_getfield 29 f129_26 rfl g129_80_12 (zg_eq (mb_52 x)) (zg_ne rfl rfl) ?_
  refine zw_iload_n 30 f129_29 rfl rfl ?_
  refine zw_iconst 0 31 f129_30 rfl (by decide +kernel) ?_
  refine zw_iastoreS 7 32 f129_31 rfl (zg_ne rfl (mb_73 x)) (by decide +kernel) (by decide +kernel) (by decide +kernel) rfl ?_
  refine zw_aload_n 33 f129_32 rfl rfl ?_
  refine zw_getfield 36 f129_33 rfl g129_83_12 (zg_eq (mb_52 x)) (zg_ne rfl rfl) ?_
  refine zw_iload_n 37 f129_36 rfl rfl ?_
  refine zw_iconst 0 38 f129_37 rfl (by decide +kernel) ?_
  refine zw_iastoreS 7 39 f129_38 rfl (zg_ne rfl (mb_74 x)) (by decide +kernel) (by decide +kernel) (by decide +kernel) rfl ?_
  refine zw_iinc 8 [(1, .int 8), (0, .ref 52)] 42 f129_39 rfl rfl (by decide +kernel) (by decide +kernel) rfl ?_
  refine zw_goto 12 f129_42 (by decide +kernel) ?_
  refine zw_iload_n 13 f129_12 rfl rfl ?_
  refine zw_bipush 8 15 f129_13 rfl (by decide +kernel) ?_
  refine zw_ic_ge_t 45 f129_15 (by decide +kernel) (by decide +kernel) ?_
  refine zw_iconst 0 46 f129_45 rfl (by decide +kernel) ?_
  refine zw_istore_n [(1, .int 0), (0, .ref 52)] 47 f129_46 rfl (by decide +kernel) rfl ?_
  refine zw_iload_n 48 f129_47 rfl rfl ?_
  refine zw_aload_n 49 f129_48 rfl rfl ?_
  refine zw_getfield 52 f129_49 rfl g129_121_12 (zg_eq (mb_52 x)) (zg_ne rfl rfl) ?_
  refine zw_ic_ge_t 135 f129_52 (by decide +kernel) (by decide +kernel) ?_
  refine zw_iconst 0 136 f129_135 rfl (by decide +kernel) ?_
  refine zw_istore_n [(1, .int 0), (0, .ref 52)] 137 f129_136 rfl (by decide +kernel) rfl ?_
  refine zw_iload_n 138 f129_137 rfl rfl ?_
  refine zw_aload_n 139 f129_138 rfl rfl ?_
  refine zw_getfield 142 f129_139 rfl g129_114_12 (zg_eq (mb_52 x)) (zg_ne rfl rfl) ?_
  refine zw_ic_ge_t 156 f129_142 (by decide +kernel) (by decide +kernel) ?_
  refine zw_vreturn f129_156 r129 u129 ⟨rfl, ?_⟩
  refine zw_aload_n 5 f132_4 rfl rfl ?_
  refine zw_iconst 1 6 f132_5 rfl (by decide +kernel) ?_
  refine zw_putfieldS 9 f132_6 rfl g132_142_12 (zg_eq (mb_52 x)) rfl (zg_eq rfl) (by decide +kernel) ?_
  refine zw_iconst 0 10 f132_9 rfl (by decide +kernel) ?_
  refine zw_istore_n [(1, .int 0), (0, .ref 52)] 11 f132_10 rfl (by decide +kernel) rfl ?_
  refine zw_iload_n 12 f132_11 rfl rfl ?_
  refine zw_aload_n 13 f132_12 rfl rfl ?_
  refine zw_getfield 16 f132_13 rfl g132_114_12 (zg_eq (mb_52 x)) (zg_ne rfl rfl) ?_
  refine zw_ic_ge_t 179 f132_16 (by decide +kernel) (by decide +kernel) ?_
  refine zw_vreturn f132_179 r132 u132 ⟨rfl, ?_⟩
  refine zw_iload_n 139 f152_138 rfl rfl ?_
  refine zw_i2l 0 140 f152_139 rfl (by decide +kernel) ?_
  refine zw_aload_n 141 f152_140 rfl rfl ?_
  refine zw_getfield 144 f152_141 rfl g152_40_12 (zg_eq (mb_52 x)) (zg_ne rfl rfl) ?_
  refine zw_lmul 0 145 f152_144 rfl (by decide +kernel) ?_
  refine zw_aload_n 146 f152_145 rfl rfl ?_
  refine zw_getfield 149 f152_146 rfl g152_172_12 (zg_eq (mb_52 x)) (zg_ne rfl rfl) ?_
  refine zw_lcmp 0 150 f152_149 rfl (by decide +kernel) ?_
  refine zw_if_le_t 174 f152_150 (by decide +kernel) (by decide +kernel) ?_
  refine zw_aload_n 175 f152_174 rfl rfl ?_
  refine zw_aload_n 176 f152_175 rfl rfl ?_
  refine zw_getfield 179 f152_176 rfl g152_183_12 (zg_eq (mb_52 x)) (zg_ne rfl rfl) ?_
  refine zw_iload_n 180 f152_179 rfl rfl ?_
  refine zw_isub 0 181 f152_180 rfl (by decide +kernel) ?_
  refine zw_virtual_i 184 0 0 [.ref 52, .int 0] [(0, .ref 52), (1, .int 0)] f152_181 rfl n152_205 k152_205_12 rfl (zg_eq (mb_52 x)) (by decide +kernel) (Nat.le_of_ble_eq_true rfl) rfl rfl (by decide +kernel) (by decide +kernel) rfl (Nat.le_of_ble_eq_true rfl) rfl ?_
  refine zw_aload_n 1 f122_0 rfl rfl ?_
  refine zw_iconst 0 2 f122_1 rfl (by decide +kernel) ?_
  refine zw_putfieldS 5 f122_2 rfl g122_111_12 (zg_eq (mb_52 x)) rfl (zg_ne rfl rfl) (by decide +kernel) ?_
  refine zw_iload_n 6 f122_5 rfl rfl ?_
  refine zw_ireturn f122_6 r122 u122 ⟨_, rfl, ?_⟩
  refine zw_ireturn f152_184 r152 u152 ?_
  exact rfl
set_option maxRecDepth 100000 in
set_option maxHeartbeats 0 in
theorem m_go_r4 (ro : UInt32 → Nat × (Nat → Int32)) (x : Nat → va_E) (a : Int32) (h1 : ¬ 10000 < a) (h2 : 0 < a) : zWp ro 152 0 [(0, .ref 52), (1, .int a)] [] (hMx x) 0 0 (fun r _ => r = some (.int 0)) := by
  refine zw_iload_n 1 f152_0 rfl rfl ?_
  refine zw_sipush 10000 4 f152_1 rfl (by decide +kernel) ?_
  refine zw_ic_gt_f 7 22 f152_4 (by decide +kernel) rfl h1 ?_
  refine zw_iload_n 8 f152_7 rfl rfl ?_
  refine zw_i2l a.toInt64 9 f152_8 rfl rfl ?_
  refine zw_aload_n 10 f152_9 rfl rfl ?_
  refine zw_getfield 13 f152_10 rfl g152_40_12 (mb_52 x) rfl ?_
  refine zw_lmul a.toInt64 14 f152_13 rfl (Int64.mul_one _) ?_
  refine zw_aload_n 15 f152_14 rfl rfl ?_
  refine zw_getfield 18 f152_15 rfl g152_172_12 (mb_52 x) rfl ?_
  refine zw_lcmp 1 19 f152_18 rfl (zl_pos h2).2 ?_
  refine zw_if_ge_t 28 f152_19 (by decide +kernel) (by decide +kernel) ?_
  refine zw_aload_n 29 f152_28 rfl rfl ?_
  refine zw_getfield 32 f152_29 rfl g152_183_12 (mb_52 x) rfl ?_
  refine zw_istore_n [(2, .int 0), (0, .ref 52), (1, .int a)] 33 f152_32 rfl (by decide +kernel) rfl ?_
  refine zw_iconst 0 34 f152_33 rfl (by decide +kernel) ?_
  refine zw_istore_n [(3, .int 0), (2, .int 0), (0, .ref 52), (1, .int a)] 35 f152_34 rfl (by decide +kernel) rfl ?_
  refine zw_iconst 1 36 f152_35 rfl (by decide +kernel) ?_
  refine zw_istore [(4, .int 1), (3, .int 0), (2, .int 0), (0, .ref 52), (1, .int a)] 38 f152_36 rfl (by decide +kernel) rfl ?_
  refine zw_iload 40 f152_38 rfl rfl ?_
  refine zw_iconst 1 41 f152_40 rfl (by decide +kernel) ?_
  refine zw_ic_ne_f 44 122 f152_41 (by decide +kernel) rfl (by decide +kernel) ?_
  refine zw_aload_n 45 f152_44 rfl rfl ?_
  refine zw_virtual_v 48 0 0 [.ref 52] [(0, .ref 52)] f152_45 rfl n152_228 k152_228_12 rfl (mb_52 x) (by decide +kernel) (Nat.le_of_ble_eq_true rfl) rfl rfl (by decide +kernel) (by decide +kernel) rfl (Nat.le_of_ble_eq_true rfl) rfl ?_
  refine zw_aload_n 1 f132_0 rfl rfl ?_
  refine zw_virtual_v 4 0 0 [.ref 52] [(0, .ref 52)] f132_1 rfl n132_151 k132_151_12 rfl (mb_52 x) (by decide +kernel) (Nat.le_of_ble_eq_true rfl) rfl rfl (by decide +kernel) (by decide +kernel) rfl (Nat.le_of_ble_eq_true rfl) rfl ?_
  refine zw_aload_n 1 f129_0 rfl rfl ?_
  refine zw_iconst 0 2 f129_1 rfl (by decide +kernel) ?_
  refine zw_putfieldS 5 f129_2 rfl g129_127_12 (mb_52 x) rfl rfl (by decide +kernel) ?_
  refine zw_aload_n 6 f129_5 rfl rfl ?_
  refine zw_iconst 0 7 f129_6 rfl (by decide +kernel) ?_
  refine zw_putfieldS 10 f129_7 rfl g129_124_12 (mb_52 x) rfl rfl (by decide +kernel) ?_
  refine zw_iconst 0 11 f129_10 rfl (by decide +kernel) ?_
  refine zw_istore_n [(1, .int 0), (0, .ref 52)] 12 f129_11 rfl (by decide +kernel) rfl ?_
  refine zw_iload_n 13 f129_12 rfl rfl ?_
  refine zw_bipush 8 15 f129_13 rfl (by decide +kernel) ?_
  refine zw_ic_ge_f 18 45 f129_15 (by decide +kernel) rfl (by decide +kernel) ?_
  refine zw_aload_n 19 f129_18 rfl rfl ?_
  refine zw_getfield 22 f129_19 rfl g129_77_12 (mb_52 x) rfl ?_
  refine zw_iload_n 23 f129_22 rfl rfl ?_
  refine zw_iconst 0 24 f129_23 rfl (by decide +kernel) ?_
  refine zw_iastoreS 0 25 f129_24 rfl (mb_72 x) (by decide +kernel) (by decide +kernel) (by decide +kernel) rfl ?_
  refine zw_aload_n 26 f129_25 rfl rfl ?_
  refine zw_getfield 29 f129_26 rfl g129_80_12 (mb_52 x) rfl ?_
  refine zw_iload_n 30 f129_29 rfl rfl ?_
  refine zw_iconst 0 31 f129_30 rfl (by decide +kernel) ?_
  refine zw_iastoreS 0 32 f129_31 rfl (mb_73 x) (by decide +kernel) (by decide +kernel) (by decide +kernel) rfl ?_
  refine zw_aload_n 33 f129_32 rfl rfl ?_
  refine zw_getfield 36 f129_33 rfl g129_83_12 (mb_52 x) rfl ?_
  refine zw_iload_n 37 f129_36 rfl rfl ?_
  refine zw_iconst 0 38 f129_37 rfl (by decide +kernel) ?_
  refine zw_iastoreS 0 39 f129_38 rfl (mb_74 x) (by decide +kernel) (by decide +kernel) (by decide +kernel) rfl ?_
  refine zw_iinc 1 [(1, .int 1), (0, .ref 52)] 42 f129_39 rfl rfl (by decide +kernel) (by decide +kernel) rfl ?_
  refine zw_goto 12 f129_42 (by decide +kernel) ?_
  refine zw_iload_n 13 f129_12 rfl rfl ?_
  refine zw_bipush 8 15 f129_13 rfl (by decide +kernel) ?_
  refine zw_ic_ge_f 18 45 f129_15 (by decide +kernel) rfl (by decide +kernel) ?_
  refine zw_aload_n 19 f129_18 rfl rfl ?_
  refine zw_getfield 22 f129_19 rfl g129_77_12 (mb_52 x) rfl ?_
  refine zw_iload_n 23 f129_22 rfl rfl ?_
  refine zw_iconst 0 24 f129_23 rfl (by decide +kernel) ?_
  refine zw_iastoreS 1 25 f129_24 rfl (mb_72 x) (by decide +kernel) (by decide +kernel) (by decide +kernel) rfl ?_
  refine zw_aload_n 26 f129_25 rfl rfl ?_
  refine zw_getfield 29 f129_26 rfl g129_80_12 (mb_52 x) rfl ?_
  refine zw_iload_n 30 f129_29 rfl rfl ?_
  refine zw_iconst 0 31 f129_30 rfl (by decide +kernel) ?_
  refine zw_iastoreS 1 32 f129_31 rfl (mb_73 x) (by decide +kernel) (by decide +kernel) (by decide +kernel) rfl ?_
  refine zw_aload_n 33 f129_32 rfl rfl ?_
  refine zw_getfield 36 f129_33 rfl g129_83_12 (mb_52 x) rfl ?_
  refine zw_iload_n 37 f129_36 rfl rfl ?_
  refine zw_iconst 0 38 f129_37 rfl (by decide +kernel) ?_
  refine zw_iastoreS 1 39 f129_38 rfl (mb_74 x) (by decide +kernel) (by decide +kernel) (by decide +kernel) rfl ?_
  refine zw_iinc 2 [(1, .int 2), (0, .ref 52)] 42 f129_39 rfl rfl (by decide +kernel) (by decide +kernel) rfl ?_
  refine zw_goto 12 f129_42 (by decide +kernel) ?_
  refine zw_iload_n 13 f129_12 rfl rfl ?_
  refine zw_bipush 8 15 f129_13 rfl (by decide +kernel) ?_
  refine zw_ic_ge_f 18 45 f129_15 (by decide +kernel) rfl (by decide +kernel) ?_
  refine zw_aload_n 19 f129_18 rfl rfl ?_
  refine zw_getfield 22 f129_19 rfl g129_77_12 (mb_52 x) rfl ?_
  refine zw_iload_n 23 f129_22 rfl rfl ?_
  refine zw_iconst 0 24 f129_23 rfl (by decide +kernel) ?_
  refine zw_iastoreS 2 25 f129_24 rfl (mb_72 x) (by decide +kernel) (by decide +kernel) (by decide +kernel) rfl ?_
  refine zw_aload_n 26 f129_25 rfl rfl ?_
  refine zw_getfield 29 f129_26 rfl g129_80_12 (mb_52 x) rfl ?_
  refine zw_iload_n 30 f129_29 rfl rfl ?_
  refine zw_iconst 0 31 f129_30 rfl (by decide +kernel) ?_
  refine zw_iastoreS 2 32 f129_31 rfl (mb_73 x) (by decide +kernel) (by decide +kernel) (by decide +kernel) rfl ?_
  refine zw_aload_n 33 f129_32 rfl rfl ?_
  refine zw_getfield 36 f129_33 rfl g129_83_12 (mb_52 x) rfl ?_
  refine zw_iload_n 37 f129_36 rfl rfl ?_
  refine zw_iconst 0 38 f129_37 rfl (by decide +kernel) ?_
  refine zw_iastoreS 2 39 f129_38 rfl (mb_74 x) (by decide +kernel) (by decide +kernel) (by decide +kernel) rfl ?_
  refine zw_iinc 3 [(1, .int 3), (0, .ref 52)] 42 f129_39 rfl rfl (by decide +kernel) (by decide +kernel) rfl ?_
  refine zw_goto 12 f129_42 (by decide +kernel) ?_
  refine zw_iload_n 13 f129_12 rfl rfl ?_
  refine zw_bipush 8 15 f129_13 rfl (by decide +kernel) ?_
  refine zw_ic_ge_f 18 45 f129_15 (by decide +kernel) rfl (by decide +kernel) ?_
  refine zw_aload_n 19 f129_18 rfl rfl ?_
  refine zw_getfield 22 f129_19 rfl g129_77_12 (mb_52 x) rfl ?_
  refine zw_iload_n 23 f129_22 rfl rfl ?_
  refine zw_iconst 0 24 f129_23 rfl (by decide +kernel) ?_
  refine zw_iastoreS 3 25 f129_24 rfl (mb_72 x) (by decide +kernel) (by decide +kernel) (by decide +kernel) rfl ?_
  refine zw_aload_n 26 f129_25 rfl rfl ?_
  refine zw_getfield 29 f129_26 rfl g129_80_12 (mb_52 x) rfl ?_
  refine zw_iload_n 30 f129_29 rfl rfl ?_
  refine zw_iconst 0 31 f129_30 rfl (by decide +kernel) ?_
  refine zw_iastoreS 3 32 f129_31 rfl (mb_73 x) (by decide +kernel) (by decide +kernel) (by decide +kernel) rfl ?_
  refine zw_aload_n 33 f129_32 rfl rfl ?_
  refine zw_getfield 36 f129_33 rfl g129_83_12 (mb_52 x) rfl ?_
  refine zw_iload_n 37 f129_36 rfl rfl ?_
  refine zw_iconst 0 38 f129_37 rfl (by decide +kernel) ?_
  refine zw_iastoreS 3 39 f129_38 rfl (mb_74 x) (by decide +kernel) (by decide +kernel) (by decide +kernel) rfl ?_
  refine zw_iinc 4 [(1, .int 4), (0, .ref 52)] 42 f129_39 rfl rfl (by decide +kernel) (by decide +kernel) rfl ?_
  refine zw_goto 12 f129_42 (by decide +kernel) ?_
  refine zw_iload_n 13 f129_12 rfl rfl ?_
  refine zw_bipush 8 15 f129_13 rfl (by decide +kernel) ?_
  refine zw_ic_ge_f 18 45 f129_15 (by decide +kernel) rfl (by decide +kernel) ?_
  refine zw_aload_n 19 f129_18 rfl rfl ?_
  refine zw_getfield 22 f129_19 rfl g129_77_12 (mb_52 x) rfl ?_
  refine zw_iload_n 23 f129_22 rfl rfl ?_
  refine zw_iconst 0 24 f129_23 rfl (by decide +kernel) ?_
  refine zw_iastoreS 4 25 f129_24 rfl (mb_72 x) (by decide +kernel) (by decide +kernel) (by decide +kernel) rfl ?_
  refine zw_aload_n 26 f129_25 rfl rfl ?_
  refine zw_getfield 29 f129_26 rfl g129_80_12 (mb_52 x) rfl ?_
  refine zw_iload_n 30 f129_29 rfl rfl ?_
  refine zw_iconst 0 31 f129_30 rfl (by decide +kernel) ?_
  refine zw_iastoreS 4 32 f129_31 rfl (mb_73 x) (by decide +kernel) (by decide +kernel) (by decide +kernel) rfl ?_
  refine zw_aload_n 33 f129_32 rfl rfl ?_
  refine zw_getfield 36 f129_33 rfl g129_83_12 (mb_52 x) rfl ?_
  refine zw_iload_n 37 f129_36 rfl rfl ?_
  refine zw_iconst 0 38 f129_37 rfl (by decide +kernel) ?_
  refine zw_iastoreS 4 39 f129_38 rfl (mb_74 x) (by decide +kernel) (by decide +kernel) (by decide +kernel) rfl ?_
  refine zw_iinc 5 [(1, .int 5), (0, .ref 52)] 42 f129_39 rfl rfl (by decide +kernel) (by decide +kernel) rfl ?_
  refine zw_goto 12 f129_42 (by decide +kernel) ?_
  refine zw_iload_n 13 f129_12 rfl rfl ?_
  refine zw_bipush 8 15 f129_13 rfl (by decide +kernel) ?_
  refine zw_ic_ge_f 18 45 f129_15 (by decide +kernel) rfl (by decide +kernel) ?_
  refine zw_aload_n 19 f129_18 rfl rfl ?_
  refine zw_getfield 22 f129_19 rfl g129_77_12 (mb_52 x) rfl ?_
  refine zw_iload_n 23 f129_22 rfl rfl ?_
  refine zw_iconst 0 24 f129_23 rfl (by decide +kernel) ?_
  refine zw_iastoreS 5 25 f129_24 rfl (mb_72 x) (by decide +kernel) (by decide +kernel) (by decide +kernel) rfl ?_
  refine zw_aload_n 26 f129_25 rfl rfl ?_
  refine zw_getfield 29 f129_26 rfl g129_80_12 (mb_52 x) rfl ?_
  refine zw_iload_n 30 f129_29 rfl rfl ?_
  refine zw_iconst 0 31 f129_30 rfl (by decide +kernel) ?_
  refine zw_iastoreS 5 32 f129_31 rfl (mb_73 x) (by decide +kernel) (by decide +kernel) (by decide +kernel) rfl ?_
  refine zw_aload_n 33 f129_32 rfl rfl ?_
  refine zw_getfield 36 f129_33 rfl g129_83_12 (mb_52 x) rfl ?_
  refine zw_iload_n 37 f129_36 rfl rfl ?_
  refine zw_iconst 0 38 f129_37 rfl (by decide +kernel) ?_
  refine zw_iastoreS 5 39 f129_38 rfl (mb_74 x) (by decide +kernel) (by decide +kernel) (by decide +kernel) rfl ?_
  refine zw_iinc 6 [(1, .int 6), (0, .ref 52)] 42 f129_39 rfl rfl (by decide +kernel) (by decide +kernel) rfl ?_
  refine zw_goto 12 f129_42 (by decide +kernel) ?_
  refine zw_iload_n 13 f129_12 rfl rfl ?_
  refine zw_bipush 8 15 f129_13 rfl (by decide +kernel) ?_
  refine zw_ic_ge_f 18 45 f129_15 (by decide +kernel) rfl (by decide +kernel) ?_
  refine zw_aload_n 19 f129_18 rfl rfl ?_
  refine zw_getfield 22 f129_19 rfl g129_77_12 (mb_52 x) rfl ?_
  refine zw_iload_n 23 f129_22 rfl rfl ?_
  refine zw_iconst 0 24 f129_23 rfl (by decide +kernel) ?_
  refine zw_iastoreS 6 25 f129_24 rfl (mb_72 x) (by decide +kernel) (by decide +kernel) (by decide +kernel) rfl ?_
  refine zw_aload_n 26 f129_25 rfl rfl ?_
  refine zw_getfield 29 f129_26 rfl g129_80_12 (mb_52 x) rfl ?_
  refine zw_iload_n 30 f129_29 rfl rfl ?_
  refine zw_iconst 0 31 f129_30 rfl (by decide +kernel) ?_
  refine zw_iastoreS 6 32 f129_31 rfl (mb_73 x) (by decide +kernel) (by decide +kernel) (by decide +kernel) rfl ?_
  refine zw_aload_n 33 f129_32 rfl rfl ?_
  refine zw_getfield 36 f129_33 rfl g129_83_12 (mb_52 x) rfl ?_
  refine zw_iload_n 37 f129_36 rfl rfl ?_
  refine zw_iconst 0 38 f129_37 rfl (by decide +kernel) ?_
  refine zw_iastoreS 6 39 f129_38 rfl (mb_74 x) (by decide +kernel) (by decide +kernel) (by decide +kernel) rfl ?_
  refine zw_iinc 7 [(1, .int 7), (0, .ref 52)] 42 f129_39 rfl rfl (by decide +kernel) (by decide +kernel) rfl ?_
  refine zw_goto 12 f129_42 (by decide +kernel) ?_
  refine zw_iload_n 13 f129_12 rfl rfl ?_
  refine zw_bipush 8 15 f129_13 rfl (by decide +kernel) ?_
  refine zw_ic_ge_f 18 45 f129_15 (by decide +kernel) rfl (by decide +kernel) ?_
  refine zw_aload_n 19 f129_18 rfl rfl ?_
  refine zw_getfield 22 f129_19 rfl g129_77_12 (mb_52 x) rfl ?_
  refine zw_iload_n 23 f129_22 rfl rfl ?_
  refine zw_iconst 0 24 f129_23 rfl (by decide +kernel) ?_
  refine zw_iastoreS 7 25 f129_24 rfl (mb_72 x) (by decide +kernel) (by decide +kernel) (by decide +kernel) rfl ?_
  refine zw_aload_n 26 f129_25 rfl rfl ?_
  refine zw_getfield 29 f129_26 rfl g129_80_12 (mb_52 x) rfl ?_
  refine zw_iload_n 30 f129_29 rfl rfl ?_
  refine zw_iconst 0 31 f129_30 rfl (by decide +kernel) ?_
  refine zw_iastoreS 7 32 f129_31 rfl (mb_73 x) (by decide +kernel) (by decide +kernel) (by decide +kernel) rfl ?_
  refine zw_aload_n 33 f129_32 rfl rfl ?_
  refine zw_getfield 36 f129_33 rfl g129_83_12 (mb_52 x) rfl ?_
  refine zw_iload_n 37 f129_36 rfl rfl ?_
  refine zw_iconst 0 38 f129_37 rfl (by decide +kernel) ?_
  refine zw_iastoreS 7 39 f129_38 rfl (mb_74 x) (by decide +kernel) (by decide +kernel) (by decide +kernel) rfl ?_
  refine zw_iinc 8 [(1, .int 8), (0, .ref 52)] 42 f129_39 rfl rfl (by decide +kernel) (by decide +kernel) rfl ?_
  refine zw_goto 12 f129_42 (by decide +kernel) ?_
  refine zw_iload_n 13 f129_12 rfl rfl ?_
  refine zw_bipush 8 15 f129_13 rfl (by decide +kernel) ?_
  refine zw_ic_ge_t 45 f129_15 (by decide +kernel) (by decide +kernel) ?_
  refine zw_iconst 0 46 f129_45 rfl (by decide +kernel) ?_
  refine zw_istore_n [(1, .int 0), (0, .ref 52)] 47 f129_46 rfl (by decide +kernel) rfl ?_
  refine zw_iload_n 48 f129_47 rfl rfl ?_
  refine zw_aload_n 49 f129_48 rfl rfl ?_
  refine zw_getfield 52 f129_49 rfl g129_121_12 (mb_52 x) rfl ?_
  refine zw_ic_ge_t 135 f129_52 (by decide +kernel) (by decide +kernel) ?_
  refine zw_iconst 0 136 f129_135 rfl (by decide +kernel) ?_
  refine zw_istore_n [(1, .int 0), (0, .ref 52)] 137 f129_136 rfl (by decide +kernel) rfl ?_
  refine zw_iload_n 138 f129_137 rfl rfl ?_
  refine zw_aload_n 139 f129_138 rfl rfl ?_
  refine zw_getfield 142 f129_139 rfl g129_114_12 (mb_52 x) rfl ?_
  refine zw_ic_ge_t 156 f129_142 (by decide +kernel) (by decide +kernel) ?_
  refine zw_vreturn f129_156 r129 u129 ⟨rfl, ?_⟩
  refine zw_aload_n 5 f132_4 rfl rfl ?_
  refine zw_iconst 1 6 f132_5 rfl (by decide +kernel) ?_
  refine zw_putfield 9 f132_6 rfl g132_142_12 (mb_52 x) rfl (zg_lt rfl) (by decide +kernel) ?_
  refine zw_iconst 0 10 f132_9 rfl (by decide +kernel) ?_
  refine zw_istore_n [(1, .int 0), (0, .ref 52)] 11 f132_10 rfl (by decide +kernel) rfl ?_
  refine zw_iload_n 12 f132_11 rfl rfl ?_
  refine zw_aload_n 13 f132_12 rfl rfl ?_
  refine zw_getfield 16 f132_13 rfl g132_114_12 (zg_eq (mb_52 x)) (zg_ne rfl rfl) ?_
  refine zw_ic_ge_t 179 f132_16 (by decide +kernel) (by decide +kernel) ?_
  refine zw_vreturn f132_179 r132 u132 ⟨rfl, ?_⟩
  refine zw_aload_n 49 f152_48 rfl rfl ?_
  refine zw_getfield 52 f152_49 rfl g152_142_12 (zg_eq (mb_52 x)) (zg_eq rfl) ?_
  refine zw_if_ne_t 89 f152_52 (by decide +kernel) (by decide +kernel) ?_
  refine zw_iconst 0 90 f152_89 rfl (by decide +kernel) ?_
  refine zw_istore [(5, .int 0), (4, .int 1), (3, .int 0), (2, .int 0), (0, .ref 52), (1, .int a)] 92 f152_90 rfl (by decide +kernel) rfl ?_
  refine zw_iload 94 f152_92 rfl rfl ?_
  refine zw_if_eq_t 108 f152_94 (by decide +kernel) (by decide +kernel) ?_
  refine zw_aload_n 109 f152_108 rfl rfl ?_
  refine zw_iload_n 110 f152_109 rfl rfl ?_
  refine zw_i2l a.toInt64 111 f152_110 rfl rfl ?_
  refine zw_virtual_i 114 0 0 [.ref 52, .long a.toInt64] [(0, .ref 52), (1, .long a.toInt64)] f152_111 rfl n152_235 k152_235_12 rfl (zg_eq (mb_52 x)) (by decide +kernel) (Nat.le_of_ble_eq_true rfl) rfl rfl (by decide +kernel) (by decide +kernel) rfl (Nat.le_of_ble_eq_true rfl) rfl ?_
  refine zw_aload_n 1 f151_0 rfl rfl ?_
  refine zw_virtual_v 4 0 0 [.ref 52] [(0, .ref 52)] f151_1 rfl n151_228 k151_228_12 rfl (zg_eq (mb_52 x)) (by decide +kernel) (Nat.le_of_ble_eq_true rfl) rfl rfl (by decide +kernel) (by decide +kernel) rfl (Nat.le_of_ble_eq_true rfl) rfl ?_
  refine zw_aload_n 1 f132_0 rfl rfl ?_
  refine zw_virtual_v 4 0 0 [.ref 52] [(0, .ref 52)] f132_1 rfl n132_151 k132_151_12 rfl (zg_eq (mb_52 x)) (by decide +kernel) (Nat.le_of_ble_eq_true rfl) rfl rfl (by decide +kernel) (by decide +kernel) rfl (Nat.le_of_ble_eq_true rfl) rfl ?_
  refine zw_aload_n 1 f129_0 rfl rfl ?_
  refine zw_iconst 0 2 f129_1 rfl (by decide +kernel) ?_
  refine zw_putfieldS 5 f129_2 rfl g129_127_12 (zg_eq (mb_52 x)) rfl (zg_ne rfl rfl) (by decide +kernel) ?_
  refine zw_aload_n 6 f129_5 rfl rfl ?_
  refine zw_iconst 0 7 f129_6 rfl (by decide +kernel) ?_
  refine zw_putfieldS 10 f129_7 rfl g129_124_12 (zg_eq (mb_52 x)) rfl (zg_ne rfl rfl) (by decide +kernel) ?_
  refine zw_iconst 0 11 f129_10 rfl (by decide +kernel) ?_
  refine zw_istore_n [(1, .int 0), (0, .ref 52)] 12 f129_11 rfl (by decide +kernel) rfl ?_
  refine zw_iload_n 13 f129_12 rfl rfl ?_
  refine zw_bipush 8 15 f129_13 rfl (by decide +kernel) ?_
  refine zw_ic_ge_f 18 45 f129_15 (by decide +kernel) rfl (by decide +kernel) ?_
  refine zw_aload_n 19 f129_18 rfl rfl ?_
  refine zw_getfield 22 f129_19 rfl g129_77_12 (zg_eq (mb_52 x)) (zg_ne rfl rfl) ?_
  refine zw_iload_n 23 f129_22 rfl rfl ?_
  refine zw_iconst 0 24 f129_23 rfl (by decide +kernel) ?_
  refine zw_iastoreS 0 25 f129_24 rfl (zg_ne rfl (mb_72 x)) (by decide +kernel) (by decide +kernel) (by decide +kernel) rfl ?_
  refine zw_aload_n 26 f129_25 rfl rfl ?_
  refine zw_getfield 29 f129_26 rfl g129_80_12 (zg_eq (mb_52 x)) (zg_ne rfl rfl) ?_
  refine zw_iload_n 30 f129_29 rfl rfl ?_
  refine zw_iconst 0 31 f129_30 rfl (by decide +kernel) ?_
  refine zw_iastoreS 0 32 f129_31 rfl (zg_ne rfl (mb_73 x)) (by decide +kernel) (by decide +kernel) (by decide +kernel) rfl ?_
  refine zw_aload_n 33 f129_32 rfl rfl ?_
  refine zw_getfield 36 f129_33 rfl g129_83_12 (zg_eq (mb_52 x)) (zg_ne rfl rfl) ?_
  refine zw_iload_n 37 f129_36 rfl rfl ?_
  refine zw_iconst 0 38 f129_37 rfl (by decide +kernel) ?_
  refine zw_iastoreS 0 39 f129_38 rfl (zg_ne rfl (mb_74 x)) (by decide +kernel) (by decide +kernel) (by decide +kernel) rfl ?_
  refine zw_iinc 1 [(1, .int 1), (0, .ref 52)] 42 f129_39 rfl rfl (by decide +kernel) (by decide +kernel) rfl ?_
  refine zw_goto 12 f129_42 (by decide +kernel) ?_
  refine zw_iload_n 13 f129_12 rfl rfl ?_
  refine zw_bipush 8 15 f129_13 rfl (by decide +kernel) ?_
  refine zw_ic_ge_f 18 45 f129_15 (by decide +kernel) rfl (by decide +kernel) ?_
  refine zw_aload_n 19 f129_18 rfl rfl ?_
  refine zw_getfield 22 f129_19 rfl g129_77_12 (zg_eq (mb_52 x)) (zg_ne rfl rfl) ?_
  refine zw_iload_n 23 f129_22 rfl rfl ?_
  refine zw_iconst 0 24 f129_23 rfl (by decide +kernel) ?_
  refine zw_iastoreS 1 25 f129_24 rfl (zg_ne rfl (mb_72 x)) (by decide +kernel) (by decide +kernel) (by decide +kernel) rfl ?_
  refine zw_aload_n 26 f129_25 rfl rfl ?_
  refine zw_getfield 29 f129_26 rfl g129_80_12 (zg_eq (mb_52 x)) (zg_ne rfl rfl) ?_
  refine zw_iload_n 30 f129_29 rfl rfl ?_
  refine zw_iconst 0 31 f129_30 rfl (by decide +kernel) ?_
  refine zw_iastoreS 1 32 f129_31 rfl (zg_ne rfl (mb_73 x)) (by decide +kernel) (by decide +kernel) (by decide +kernel) rfl ?_
  refine zw_aload_n 33 f129_32 rfl rfl ?_
  refine zw_getfield 36 f129_33 rfl g129_83_12 (zg_eq (mb_52 x)) (zg_ne rfl rfl) ?_
  refine zw_iload_n 37 f129_36 rfl rfl ?_
  refine zw_iconst 0 38 f129_37 rfl (by decide +kernel) ?_
  refine zw_iastoreS 1 39 f129_38 rfl (zg_ne rfl (mb_74 x)) (by decide +kernel) (by decide +kernel) (by decide +kernel) rfl ?_
  refine zw_iinc 2 [(1, .int 2), (0, .ref 52)] 42 f129_39 rfl rfl (by decide +kernel) (by decide +kernel) rfl ?_
  refine zw_goto 12 f129_42 (by decide +kernel) ?_
  refine zw_iload_n 13 f129_12 rfl rfl ?_
  refine zw_bipush 8 15 f129_13 rfl (by decide +kernel) ?_
  refine zw_ic_ge_f 18 45 f129_15 (by decide +kernel) rfl (by decide +kernel) ?_
  refine zw_aload_n 19 f129_18 rfl rfl ?_
  refine zw_getfield 22 f129_19 rfl g129_77_12 (zg_eq (mb_52 x)) (zg_ne rfl rfl) ?_
  refine zw_iload_n 23 f129_22 rfl rfl ?_
  refine zw_iconst 0 24 f129_23 rfl (by decide +kernel) ?_
  refine zw_iastoreS 2 25 f129_24 rfl (zg_ne rfl (mb_72 x)) (by decide +kernel) (by decide +kernel) (by decide +kernel) rfl ?_
  refine zw_aload_n 26 f129_25 rfl rfl ?_
  refine zw_getfield 29 f129_26 rfl g129_80_12 (zg_eq (mb_52 x)) (zg_ne rfl rfl) ?_
  refine zw_iload_n 30 f129_29 rfl rfl ?_
  refine zw_iconst 0 31 f129_30 rfl (by decide +kernel) ?_
  refine zw_iastoreS 2 32 f129_31 rfl (zg_ne rfl (mb_73 x)) (by decide +kernel) (by decide +kernel) (by decide +kernel) rfl ?_
  refine zw_aload_n 33 f129_32 rfl rfl ?_
  refine zw_getfield 36 f129_33 rfl g129_83_12 (zg_eq (mb_52 x)) (zg_ne rfl rfl) ?_
  refine zw_iload_n 37 f129_36 rfl rfl ?_
  refine zw_iconst 0 38 f129_37 rfl (by decide +kernel) ?_
  refine zw_iastoreS 2 39 f129_38 rfl (zg_ne rfl (mb_74 x)) (by decide +kernel) (by decide +kernel) (by decide +kernel) rfl ?_
  refine zw_iinc 3 [(1, .int 3), (0, .ref 52)] 42 f129_39 rfl rfl (by decide +kernel) (by decide +kernel) rfl ?_
  refine zw_goto 12 f129_42 (by decide +kernel) ?_
  refine zw_iload_n 13 f129_12 rfl rfl ?_
  refine zw_bipush 8 15 f129_13 rfl (by decide +kernel) ?_
  refine zw_ic_ge_f 18 45 f129_15 (by decide +kernel) rfl (by decide +kernel) ?_
  refine zw_aload_n 19 f129_18 rfl rfl ?_
  refine zw_getfield 22 f129_19 rfl g129_77_12 (zg_eq (mb_52 x)) (zg_ne rfl rfl) ?_
  refine zw_iload_n 23 f129_22 rfl rfl ?_
  refine zw_iconst 0 24 f129_23 rfl (by decide +kernel) ?_
  refine zw_iastoreS 3 25 f129_24 rfl (zg_ne rfl (mb_72 x)) (by decide +kernel) (by decide +kernel) (by decide +kernel) rfl ?_
  refine zw_aload_n 26 f129_25 rfl rfl ?_
  refine zw_getfield 29 f129_26 rfl g129_80_12 (zg_eq (mb_52 x)) (zg_ne rfl rfl) ?_
  refine zw_iload_n 30 f129_29 rfl rfl ?_
  refine zw_iconst 0 31 f129_30 rfl (by decide +kernel) ?_
  refine zw_iastoreS 3 32 f129_31 rfl (zg_ne rfl (mb_73 x)) (by decide +kernel) (by decide +kernel) (by decide +kernel) rfl ?_
  refine zw_aload_n 33 f129_32 rfl rfl ?_
  refine zw_getfield 36 f129_33 rfl g129_83_12 (zg_eq (mb_52 x)) (zg_ne rfl rfl) ?_
  refine zw_iload_n 37 f129_36 rfl rfl ?_
  refine zw_iconst 0 38 f129_37 rfl (by decide +kernel) ?_
  refine zw_iastoreS 3 39 f129_38 rfl (zg_ne rfl (mb_74 x)) (by decide +kernel) (by decide +kernel) (by decide +kernel) rfl ?_
  refine zw_iinc 4 [(1, .int 4), (0, .ref 52)] 42 f129_39 rfl rfl (by decide +kernel) (by decide +kernel) rfl ?_
  refine zw_goto 12 f129_42 (by decide +kernel) ?_
  refine zw_iload_n 13 f129_12 rfl rfl ?_
  refine zw_bipush 8 15 f129_13 rfl (by decide +kernel) ?_
  refine zw_ic_ge_f 18 45 f129_15 (by decide +kernel) rfl (by decide +kernel) ?_
  refine zw_aload_n 19 f129_18 rfl rfl ?_
  refine zw_getfield 22 f129_19 rfl g129_77_12 (zg_eq (mb_52 x)) (zg_ne rfl rfl) ?_
  refine zw_iload_n 23 f129_22 rfl rfl ?_
  refine zw_iconst 0 24 f129_23 rfl (by decide +kernel) ?_
  refine zw_iastoreS 4 25 f129_24 rfl (zg_ne rfl (mb_72 x)) (by decide +kernel) (by decide +kernel) (by decide +kernel) rfl ?_
  refine zw_aload_n 26 f129_25 rfl rfl ?_
  refine zw_getfield 29 f129_26 rfl g129_80_12 (zg_eq (mb_52 x)) (zg_ne rfl rfl) ?_
  refine zw_iload_n 30 f129_29 rfl rfl ?_
  refine zw_iconst 0 31 f129_30 rfl (by decide +kernel) ?_
  refine zw_iastoreS 4 32 f129_31 rfl (zg_ne rfl (mb_73 x)) (by decide +kernel) (by decide +kernel) (by decide +kernel) rfl ?_
  refine zw_aload_n 33 f129_32 rfl rfl ?_
  refine zw_getfield 36 f129_33 rfl g129_83_12 (zg_eq (mb_52 x)) (zg_ne rfl rfl) ?_
  refine zw_iload_n 37 f129_36 rfl rfl ?_
  refine zw_iconst 0 38 f129_37 rfl (by decide +kernel) ?_
  refine zw_iastoreS 4 39 f129_38 rfl (zg_ne rfl (mb_74 x)) (by decide +kernel) (by decide +kernel) (by decide +kernel) rfl ?_
  refine zw_iinc 5 [(1, .int 5), (0, .ref 52)] 42 f129_39 rfl rfl (by decide +kernel) (by decide +kernel) rfl ?_
  refine zw_goto 12 f129_42 (by decide +kernel) ?_
  refine zw_iload_n 13 f129_12 rfl rfl ?_
  refine zw_bipush 8 15 f129_13 rfl (by decide +kernel) ?_
  refine zw_ic_ge_f 18 45 f129_15 (by decide +kernel) rfl (by decide +kernel) ?_
  refine zw_aload_n 19 f129_18 rfl rfl ?_
  refine zw_getfield 22 f129_19 rfl g129_77_12 (zg_eq (mb_52 x)) (zg_ne rfl rfl) ?_
  refine zw_iload_n 23 f129_22 rfl rfl ?_
  refine zw_iconst 0 24 f129_23 rfl (by decide +kernel) ?_
  refine zw_iastoreS 5 25 f129_24 rfl (zg_ne rfl (mb_72 x)) (by decide +kernel) (by decide +kernel) (by decide +kernel) rfl ?_
  refine zw_aload_n 26 f129_25 rfl rfl ?_
  refine zw_getfield 29 f129_26 rfl g129_80_12 (zg_eq (mb_52 x)) (zg_ne rfl rfl) ?_
  refine zw_iload_n 30 f129_29 rfl rfl ?_
  refine zw_iconst 0 31 f129_30 rfl (by decide +kernel) ?_
  refine zw_iastoreS 5 32 f129_31 rfl (zg_ne rfl (mb_73 x)) (by decide +kernel) (by decide +kernel) (by decide +kernel) rfl ?_
  refine zw_aload_n 33 f129_32 rfl rfl ?_
  refine zw_getfield 36 f129_33 rfl g129_83_12 (zg_eq (mb_52 x)) (zg_ne rfl rfl) ?_
  refine zw_iload_n 37 f129_36 rfl rfl ?_
  refine zw_iconst 0 38 f129_37 rfl (by decide +kernel) ?_
  refine zw_iastoreS 5 39 f129_38 rfl (zg_ne rfl (mb_74 x)) (by decide +kernel) (by decide +kernel) (by decide +kernel) rfl ?_
  refine zw_iinc 6 [(1, .int 6), (0, .ref 52)] 42 f129_39 rfl rfl (by decide +kernel) (by decide +kernel) rfl ?_
  refine zw_goto 12 f129_42 (by decide +kernel) ?_
  refine zw_iload_n 13 f129_12 rfl rfl ?_
  refine zw_bipush 8 15 f129_13 rfl (by decide +kernel) ?_
  refine zw_ic_ge_f 18 45 f129_15 (by decide +kernel) rfl (by decide +kernel) ?_
  refine zw_aload_n 19 f129_18 rfl rfl ?_
  refine zw_getfield 22 f129_19 rfl g129_77_12 (zg_eq (mb_52 x)) (zg_ne rfl rfl) ?_
  refine zw_iload_n 23 f129_22 rfl rfl ?_
  refine zw_iconst 0 24 f129_23 rfl (by decide +kernel) ?_
  refine zw_iastoreS 6 25 f129_24 rfl (zg_ne rfl (mb_72 x)) (by decide +kernel) (by decide +kernel) (by decide +kernel) rfl ?_
  refine zw_aload_n 26 f129_25 rfl rfl ?_
  refine zw_getfield 29 f129_26 rfl g129_80_12 (zg_eq (mb_52 x)) (zg_ne rfl rfl) ?_
  refine zw_iload_n 30 f129_29 rfl rfl ?_
  refine zw_iconst 0 31 f129_30 rfl (by decide +kernel) ?_
  refine zw_iastoreS 6 32 f129_31 rfl (zg_ne rfl (mb_73 x)) (by decide +kernel) (by decide +kernel) (by decide +kernel) rfl ?_
  refine zw_aload_n 33 f129_32 rfl rfl ?_
  refine zw_getfield 36 f129_33 rfl g129_83_12 (zg_eq (mb_52 x)) (zg_ne rfl rfl) ?_
  refine zw_iload_n 37 f129_36 rfl rfl ?_
  refine zw_iconst 0 38 f129_37 rfl (by decide +kernel) ?_
  refine zw_iastoreS 6 39 f129_38 rfl (zg_ne rfl (mb_74 x)) (by decide +kernel) (by decide +kernel) (by decide +kernel) rfl ?_
  refine zw_iinc 7 [(1, .int 7), (0, .ref 52)] 42 f129_39 rfl rfl (by decide +kernel) (by decide +kernel) rfl ?_
  refine zw_goto 12 f129_42 (by decide +kernel) ?_
  refine zw_iload_n 13 f129_12 rfl rfl ?_
  refine zw_bipush 8 15 f129_13 rfl (by decide +kernel) ?_
  refine zw_ic_ge_f 18 45 f129_15 (by decide +kernel) rfl (by decide +kernel) ?_
  refine zw_aload_n 19 f129_18 rfl rfl ?_
  refine zw_getfield 22 f129_19 rfl g129_77_12 (zg_eq (mb_52 x)) (zg_ne rfl rfl) ?_
  refine zw_iload_n 23 f129_22 rfl rfl ?_
  refine zw_iconst 0 24 f129_23 rfl (by decide +kernel) ?_
  refine zw_iastoreS 7 25 f129_24 rfl (zg_ne rfl (mb_72 x)) (by decide +kernel) (by decide +kernel) (by decide +kernel) rfl ?_
  refine zw_aload_n 26 f129_25 rfl rfl ?_
  refine zw_getfield 29 f129_26 rfl g129_80_12 (zg_eq (mb_52 x)) (zg_ne rfl rfl) ?_
  refine zw_iload_n 30 f129_29 rfl rfl ?_
  refine zw_iconst 0 31 f129_30 rfl (by decide +kernel) ?_
  refine zw_iastoreS 7 32 f129_31 rfl (zg_ne rfl (mb_73 x)) (by decide +kernel) (by decide +kernel) (by decide +kernel) rfl ?_
  refine zw_aload_n 33 f129_32 rfl rfl ?_
  refine zw_getfield 36 f129_33 rfl g129_83_12 (zg_eq (mb_52 x)) (zg_ne rfl rfl) ?_
  refine zw_iload_n 37 f129_36 rfl rfl ?_
  refine zw_iconst 0 38 f129_37 rfl (by decide +kernel) ?_
  refine zw_iastoreS 7 39 f129_38 rfl (zg_ne rfl (mb_74 x)) (by decide +kernel) (by decide +kernel) (by decide +kernel) rfl ?_
  refine zw_iinc 8 [(1, .int 8), (0, .ref 52)] 42 f129_39 rfl rfl (by decide +kernel) (by decide +kernel) rfl ?_
  refine zw_goto 12 f129_42 (by decide +kernel) ?_
  refine zw_iload_n 13 f129_12 rfl rfl ?_
  refine zw_bipush 8 15 f129_13 rfl (by decide +kernel) ?_
  refine zw_ic_ge_t 45 f129_15 (by decide +kernel) (by decide +kernel) ?_
  refine zw_iconst 0 46 f129_45 rfl (by decide +kernel) ?_
  refine zw_istore_n [(1, .int 0), (0, .ref 52)] 47 f129_46 rfl (by decide +kernel) rfl ?_
  refine zw_iload_n 48 f129_47 rfl rfl ?_
  refine zw_aload_n 49 f129_48 rfl rfl ?_
  refine zw_getfield 52 f129_49 rfl g129_121_12 (zg_eq (mb_52 x)) (zg_ne rfl rfl) ?_
  refine zw_ic_ge_t 135 f129_52 (by decide +kernel) (by decide +kernel) ?_
  refine zw_iconst 0 136 f129_135 rfl (by decide +kernel) ?_
  refine zw_istore_n [(1, .int 0), (0, .ref 52)] 137 f129_136 rfl (by decide +kernel) rfl ?_
  refine zw_iload_n 138 f129_137 rfl rfl ?_
  refine zw_aload_n 139 f129_138 rfl rfl ?_
  refine zw_getfield 142 f129_139 rfl g129_114_12 (zg_eq (mb_52 x)) (zg_ne rfl rfl) ?_
  refine zw_ic_ge_t 156 f129_142 (by decide +kernel) (by decide +kernel) ?_
  refine zw_vreturn f129_156 r129 u129 ⟨rfl, ?_⟩
  refine zw_aload_n 5 f132_4 rfl rfl ?_
  refine zw_iconst 1 6 f132_5 rfl (by decide +kernel) ?_
  refine zw_putfieldS 9 f132_6 rfl g132_142_12 (zg_eq (mb_52 x)) rfl (zg_eq rfl) (by decide +kernel) ?_
  refine zw_iconst 0 10 f132_9 rfl (by decide +kernel) ?_
  refine zw_istore_n [(1, .int 0), (0, .ref 52)] 11 f132_10 rfl (by decide +kernel) rfl ?_
  refine zw_iload_n 12 f132_11 rfl rfl ?_
  refine zw_aload_n 13 f132_12 rfl rfl ?_
  refine zw_getfield 16 f132_13 rfl g132_114_12 (zg_eq (mb_52 x)) (zg_ne rfl rfl) ?_
  refine zw_ic_ge_t 179 f132_16 (by decide +kernel) (by decide +kernel) ?_
  refine zw_vreturn f132_179 r132 u132 ⟨rfl, ?_⟩
  refine zw_aload_n 5 f151_4 rfl rfl ?_
  refine zw_getfield 8 f151_5 rfl g151_142_12 (zg_eq (mb_52 x)) (zg_eq rfl) ?_
  refine zw_if_ne_t 40 f151_8 (by decide +kernel) (by decide +kernel) ?_
  refine zw_iconst 0 41 f151_40 rfl (by decide +kernel) ?_
  refine zw_ireturn f151_41 r151 u151 ⟨_, rfl, ?_⟩
  refine zw_istore [(4, .int 0), (5, .int 0), (3, .int 0), (2, .int 0), (0, .ref 52), (1, .int a)] 116 f152_114 rfl (by decide +kernel) rfl ?_
  refine zw_iinc 1 [(3, .int 1), (4, .int 0), (5, .int 0), (2, .int 0), (0, .ref 52), (1, .int a)] 119 f152_116 rfl rfl (by decide +kernel) (by decide +kernel) rfl ?_
  refine zw_goto 38 f152_119 (by decide +kernel) ?_
  refine zw_iload 40 f152_38 rfl rfl ?_
  refine zw_iconst 1 41 f152_40 rfl (by decide +kernel) ?_
  refine zw_ic_ne_t 122 f152_41 (by decide +kernel) (by decide +kernel) ?_
  refine zw_iload 124 f152_122 rfl rfl ?_
  refine zw_iconst (-1) 125 f152_124 rfl (by decide +kernel) ?_
  refine zw_ic_ne_t 134 f152_125 (by decide +kernel) (by decide +kernel) ?_
  refine zw_aload_n 135 f152_134 rfl rfl ?_
  refine zw_virtual_v 138 0 0 [.ref 52] [(0, .ref 52)] f152_135 rfl n152_228 k152_228_12 rfl (zg_eq (mb_52 x)) (by decide +kernel) (Nat.le_of_ble_eq_true rfl) rfl rfl (by decide +kernel) (by decide +kernel) rfl (Nat.le_of_ble_eq_true rfl) rfl ?_
  refine zw_aload_n 1 f132_0 rfl rfl ?_
  refine zw_virtual_v 4 0 0 [.ref 52] [(0, .ref 52)] f132_1 rfl n132_151 k132_151_12 rfl (zg_eq (mb_52 x)) (by decide +kernel) (Nat.le_of_ble_eq_true rfl) rfl rfl (by decide +kernel) (by decide +kernel) rfl (Nat.le_of_ble_eq_true rfl) rfl ?_
  refine zw_aload_n 1 f129_0 rfl rfl ?_
  refine zw_iconst 0 2 f129_1 rfl (by decide +kernel) ?_
  refine zw_putfieldS 5 f129_2 rfl g129_127_12 (zg_eq (mb_52 x)) rfl (zg_ne rfl rfl) (by decide +kernel) ?_
  refine zw_aload_n 6 f129_5 rfl rfl ?_
  refine zw_iconst 0 7 f129_6 rfl (by decide +kernel) ?_
  refine zw_putfieldS 10 f129_7 rfl g129_124_12 (zg_eq (mb_52 x)) rfl (zg_ne rfl rfl) (by decide +kernel) ?_
  refine zw_iconst 0 11 f129_10 rfl (by decide +kernel) ?_
  refine zw_istore_n [(1, .int 0), (0, .ref 52)] 12 f129_11 rfl (by decide +kernel) rfl ?_
  refine zw_iload_n 13 f129_12 rfl rfl ?_
  refine zw_bipush 8 15 f129_13 rfl (by decide +kernel) ?_
  refine zw_ic_ge_f 18 45 f129_15 (by decide +kernel) rfl (by decide +kernel) ?_
  refine zw_aload_n 19 f129_18 rfl rfl ?_
  refine zw_getfield 22 f129_19 rfl g129_77_12 (zg_eq (mb_52 x)) (zg_ne rfl rfl) ?_
  refine zw_iload_n 23 f129_22 rfl rfl ?_
  refine zw_iconst 0 24 f129_23 rfl (by decide +kernel) ?_
  refine zw_iastoreS 0 25 f129_24 rfl (zg_ne rfl (mb_72 x)) (by decide +kernel) (by decide +kernel) (by decide +kernel) rfl ?_
  refine zw_aload_n 26 f129_25 rfl rfl ?_
  refine zw_getfield 29 f129_26 rfl g129_80_12 (zg_eq (mb_52 x)) (zg_ne rfl rfl) ?_
  refine zw_iload_n 30 f129_29 rfl rfl ?_
  refine zw_iconst 0 31 f129_30 rfl (by decide +kernel) ?_
  refine zw_iastoreS 0 32 f129_31 rfl (zg_ne rfl (mb_73 x)) (by decide +kernel) (by decide +kernel) (by decide +kernel) rfl ?_
  refine zw_aload_n 33 f129_32 rfl rfl ?_
  refine zw_getfield 36 f129_33 rfl g129_83_12 (zg_eq (mb_52 x)) (zg_ne rfl rfl) ?_
  refine zw_iload_n 37 f129_36 rfl rfl ?_
  refine zw_iconst 0 38 f129_37 rfl (by decide +kernel) ?_
  refine zw_iastoreS 0 39 f129_38 rfl (zg_ne rfl (mb_74 x)) (by decide +kernel) (by decide +kernel) (by decide +kernel) rfl ?_
  refine zw_iinc 1 [(1, .int 1), (0, .ref 52)] 42 f129_39 rfl rfl (by decide +kernel) (by decide +kernel) rfl ?_
  refine zw_goto 12 f129_42 (by decide +kernel) ?_
  refine zw_iload_n 13 f129_12 rfl rfl ?_
  refine zw_bipush 8 15 f129_13 rfl (by decide +kernel) ?_
  refine zw_ic_ge_f 18 45 f129_15 (by decide +kernel) rfl (by decide +kernel) ?_
  refine zw_aload_n 19 f129_18 rfl rfl ?_
  refine zw_getfield 22 f129_19 rfl g129_77_12 (zg_eq (mb_52 x)) (zg_ne rfl rfl) ?_
  refine zw_iload_n 23 f129_22 rfl rfl ?_
  refine zw_iconst 0 24 f129_23 rfl (by decide +kernel) ?_
  refine zw_iastoreS 1 25 f129_24 rfl (zg_ne rfl (mb_72 x)) (by decide +kernel) (by decide +kernel) (by decide +kernel) rfl ?_
  refine zw_aload_n 26 f129_25 rfl rfl ?_
  refine zw_getfield 29 f129_26 rfl g129_80_12 (zg_eq (mb_52 x)) (zg_ne rfl rfl) ?_
  refine zw_iload_n 30 f129_29 rfl rfl ?_
  refine zw_iconst 0 31 f129_30 rfl (by decide +kernel) ?_
  refine zw_iastoreS 1 32 f129_31 rfl (zg_ne rfl (mb_73 x)) (by decide +kernel) (by decide +kernel) (by decide +kernel) rfl ?_
  refine zw_aload_n 33 f129_32 rfl rfl ?_
  refine zw_getfield 36 f129_33 rfl g129_83_12 (zg_eq (mb_52 x)) (zg_ne rfl rfl) ?_
  refine zw_iload_n 37 f129_36 rfl rfl ?_
  refine zw_iconst 0 38 f129_37 rfl (by decide +kernel) ?_
  refine zw_iastoreS 1 39 f129_38 rfl (zg_ne rfl (mb_74 x)) (by decide +kernel) (by decide +kernel) (by decide +kernel) rfl ?_
  refine zw_iinc 2 [(1, .int 2), (0, .ref 52)] 42 f129_39 rfl rfl (by decide +kernel) (by decide +kernel) rfl ?_
  refine zw_goto 12 f129_42 (by decide +kernel) ?_
  refine zw_iload_n 13 f129_12 rfl rfl ?_
  refine zw_bipush 8 15 f129_13 rfl (by decide +kernel) ?_
  refine zw_ic_ge_f 18 45 f129_15 (by decide +kernel) rfl (by decide +kernel) ?_
  refine zw_aload_n 19 f129_18 rfl rfl ?_
  refine zw_getfield 22 f129_19 rfl g129_77_12 (zg_eq (mb_52 x)) (zg_ne rfl rfl) ?_
  refine zw_iload_n 23 f129_22 rfl rfl ?_
  refine zw_iconst 0 24 f129_23 rfl (by decide +kernel) ?_
  refine zw_iastoreS 2 25 f129_24 rfl (zg_ne rfl (mb_72 x)) (by decide +kernel) (by decide +kernel) (by decide +kernel) rfl ?_
  refine zw_aload_n 26 f129_25 rfl rfl ?_
  refine zw_getfield 29 f129_26 rfl g129_80_12 (zg_eq (mb_52 x)) (zg_ne rfl rfl) ?_
  refine zw_iload_n 30 f129_29 rfl rfl ?_
  refine zw_iconst 0 31 f129_30 rfl (by decide +kernel) ?_
  refine zw_iastoreS 2 32 f129_31 rfl (zg_ne rfl (mb_73 x)) (by decide +kernel) (by decide +kernel) (by decide +kernel) rfl ?_
  refine zw_aload_n 33 f129_32 rfl rfl ?_
  refine zw_getfield 36 f129_33 rfl g129_83_12 (zg_eq (mb_52 x)) (zg_ne rfl rfl) ?_
  refine zw_iload_n 37 f129_36 rfl rfl ?_
  refine zw_iconst 0 38 f129_37 rfl (by decide +kernel) ?_
  refine zw_iastoreS 2 39 f129_38 rfl (zg_ne rfl (mb_74 x)) (by decide +kernel) (by decide +kernel) (by decide +kernel) rfl ?_
  refine zw_iinc 3 [(1, .int 3), (0, .ref 52)] 42 f129_39 rfl rfl (by decide +kernel) (by decide +kernel) rfl ?_
  refine zw_goto 12 f129_42 (by decide +kernel) ?_
  refine zw_iload_n 13 f129_12 rfl rfl ?_
  refine zw_bipush 8 15 f129_13 rfl (by decide +kernel) ?_
  refine zw_ic_ge_f 18 45 f129_15 (by decide +kernel) rfl (by decide +kernel) ?_
  refine zw_aload_n 19 f129_18 rfl rfl ?_
  refine zw_getfield 22 f129_19 rfl g129_77_12 (zg_eq (mb_52 x)) (zg_ne rfl rfl) ?_
  refine zw_iload_n 23 f129_22 rfl rfl ?_
  refine zw_iconst 0 24 f129_23 rfl (by decide +kernel) ?_
  refine zw_iastoreS 3 25 f129_24 rfl (zg_ne rfl (mb_72 x)) (by decide +kernel) (by decide +kernel) (by decide +kernel) rfl ?_
  refine zw_aload_n 26 f129_25 rfl rfl ?_
  refine zw_getfield 29 f129_26 rfl g129_80_12 (zg_eq (mb_52 x)) (zg_ne rfl rfl) ?_
  refine zw_iload_n 30 f129_29 rfl rfl ?_
  refine zw_iconst 0 31 f129_30 rfl (by decide +kernel) ?_
  refine zw_iastoreS 3 32 f129_31 rfl (zg_ne rfl (mb_73 x)) (by decide +kernel) (by decide +kernel) (by decide +kernel) rfl ?_
  refine zw_aload_n 33 f129_32 rfl rfl ?_
  refine zw_getfield 36 f129_33 rfl g129_83_12 (zg_eq (mb_52 x)) (zg_ne rfl rfl) ?_
  refine zw_iload_n 37 f129_36 rfl rfl ?_
  refine zw_iconst 0 38 f129_37 rfl (by decide +kernel) ?_
  refine zw_iastoreS 3 39 f129_38 rfl (zg_ne rfl (mb_74 x)) (by decide +kernel) (by decide +kernel) (by decide +kernel) rfl ?_
  refine zw_iinc 4 [(1, .int 4), (0, .ref 52)] 42 f129_39 rfl rfl (by decide +kernel) (by decide +kernel) rfl ?_
  refine zw_goto 12 f129_42 (by decide +kernel) ?_
  refine zw_iload_n 13 f129_12 rfl rfl ?_
  refine zw_bipush 8 15 f129_13 rfl (by decide +kernel) ?_
  refine zw_ic_ge_f 18 45 f129_15 (by decide +kernel) rfl (by decide +kernel) ?_
  refine zw_aload_n 19 f129_18 rfl rfl ?_
  refine zw_getfield 22 f129_19 rfl g129_77_12 (zg_eq (mb_52 x)) (zg_ne rfl rfl) ?_
  refine zw_iload_n 23 f129_22 rfl rfl ?_
  refine zw_iconst 0 24 f129_23 rfl (by decide +kernel) ?_
  refine zw_iastoreS 4 25 f129_24 rfl (zg_ne rfl (mb_72 x)) (by decide +kernel) (by decide +kernel) (by decide +kernel) rfl ?_
  refine zw_aload_n 26 f129_25 rfl rfl ?_
  refine zw_getfield 29 f129_26 rfl g129_80_12 (zg_eq (mb_52 x)) (zg_ne rfl rfl) ?_
  refine zw_iload_n 30 f129_29 rfl rfl ?_
  refine zw_iconst 0 31 f129_30 rfl (by decide +kernel) ?_
  refine zw_iastoreS 4 32 f129_31 rfl (zg_ne rfl (mb_73 x)) (by decide +kernel) (by decide +kernel) (by decide +kernel) rfl ?_
  refine zw_aload_n 33 f129_32 rfl rfl ?_
  refine zw_getfield 36 f129_33 rfl g129_83_12 (zg_eq (mb_52 x)) (zg_ne rfl rfl) ?_
  refine zw_iload_n 37 f129_36 rfl rfl ?_
  refine zw_iconst 0 38 f129_37 rfl (by decide +kernel) ?_
  refine zw_iastoreS 4 39 f129_38 rfl (zg_ne rfl (mb_74 x)) (by decide +kernel) (by decide +kernel) (by decide +kernel) rfl ?_
  refine zw_iinc 5 [(1, .int 5), (0, .ref 52)] 42 f129_39 rfl rfl (by decide +kernel) (by decide +kernel) rfl ?_
  refine zw_goto 12 f129_42 (by decide +kernel) ?_
  refine zw_iload_n 13 f129_12 rfl rfl ?_
  refine zw_bipush 8 15 f129_13 rfl (by decide +kernel) ?_
  refine zw_ic_ge_f 18 45 f129_15 (by decide +kernel) rfl (by decide +kernel) ?_
  refine zw_aload_n 19 f129_18 rfl rfl ?_
  refine zw_getfield 22 f129_19 rfl g129_77_12 (zg_eq (mb_52 x)) (zg_ne rfl rfl) ?_
  refine zw_iload_n 23 f129_22 rfl rfl ?_
  refine zw_iconst 0 24 f129_23 rfl (by decide +kernel) ?_
  refine zw_iastoreS 5 25 f129_24 rfl (zg_ne rfl (mb_72 x)) (by decide +kernel) (by decide +kernel) (by decide +kernel) rfl ?_
  refine zw_aload_n 26 f129_25 rfl rfl ?_
  refine zw_getfield 29 f129_26 rfl g129_80_12 (zg_eq (mb_52 x)) (zg_ne rfl rfl) ?_
  refine zw_iload_n 30 f129_29 rfl rfl ?_
  refine zw_iconst 0 31 f129_30 rfl (by decide +kernel) ?_
  refine zw_iastoreS 5 32 f129_31 rfl (zg_ne rfl (mb_73 x)) (by decide +kernel) (by decide +kernel) (by decide +kernel) rfl ?_
  refine zw_aload_n 33 f129_32 rfl rfl ?_
  refine zw_getfield 36 f129_33 rfl g129_83_12 (zg_eq (mb_52 x)) (zg_ne rfl rfl) ?_
  refine zw_iload_n 37 f129_36 rfl rfl ?_
  refine zw_iconst 0 38 f129_37 rfl (by decide +kernel) ?_
  refine zw_iastoreS 5 39 f129_38 rfl (zg_ne rfl (mb_74 x)) (by decide +kernel) (by decide +kernel) (by decide +kernel) rfl ?_
  refine zw_iinc 6 [(1, .int 6), (0, .ref 52)] 42 f129_39 rfl rfl (by decide +kernel) (by decide +kernel) rfl ?_
  refine zw_goto 12 f129_42 (by decide +kernel) ?_
  refine zw_iload_n 13 f129_12 rfl rfl ?_
  refine zw_bipush 8 15 f129_13 rfl (by decide +kernel) ?_
  refine zw_ic_ge_f 18 45 f129_15 (by decide +kernel) rfl (by decide +kernel) ?_
  refine zw_aload_n 19 f129_18 rfl rfl ?_
  refine zw_getfield 22 f129_19 rfl g129_77_12 (zg_eq (mb_52 x)) (zg_ne rfl rfl) ?_
  refine zw_iload_n 23 f129_22 rfl rfl ?_
  refine zw_iconst 0 24 f129_23 rfl (by decide +kernel) ?_
  refine zw_iastoreS 6 25 f129_24 rfl (zg_ne rfl (mb_72 x)) (by decide +kernel) (by decide +kernel) (by decide +kernel) rfl ?_
  refine zw_aload_n 26 f129_25 rfl rfl ?_
  refine zw_getfield 29 f129_26 rfl g129_80_12 (zg_eq (mb_52 x)) (zg_ne rfl rfl) ?_
  refine zw_iload_n 30 f129_29 rfl rfl ?_
  refine zw_iconst 0 31 f129_30 rfl (by decide +kernel) ?_
  refine zw_iastoreS 6 32 f129_31 rfl (zg_ne rfl (mb_73 x)) (by decide +kernel) (by decide +kernel) (by decide +kernel) rfl ?_
  refine zw_aload_n 33 f129_32 rfl rfl ?_
  refine zw_getfield 36 f129_33 rfl g129_83_12 (zg_eq (mb_52 x)) (zg_ne rfl rfl) ?_
  refine zw_iload_n 37 f129_36 rfl rfl ?_
  refine zw_iconst 0 38 f129_37 rfl (by decide +kernel) ?_
  refine zw_iastoreS 6 39 f129_38 rfl (zg_ne rfl (mb_74 x)) (by decide +kernel) (by decide +kernel) (by decide +kernel) rfl ?_
  refine zw_iinc 7 [(1, .int 7), (0, .ref 52)] 42 f129_39 rfl rfl (by decide +kernel) (by decide +kernel) rfl ?_
  refine zw_goto 12 f129_42 (by decide +kernel) ?_
  refine zw_iload_n 13 f129_12 rfl rfl ?_
  refine zw_bipush 8 15 f129_13 rfl (by decide +kernel) ?_
  refine zw_ic_ge_f 18 45 f129_15 (by decide +kernel) rfl (by decide +kernel) ?_
  refine zw_aload_n 19 f129_18 rfl rfl ?_
  refine zw_getfield 22 f129_19 rfl g129_77_12 (zg_eq (mb_52 x)) (zg_ne rfl rfl) ?_
  refine zw_iload_n 23 f129_22 rfl rfl ?_
  refine zw_iconst 0 24 f129_23 rfl (by decide +kernel) ?_
  refine zw_iastoreS 7 25 f129_24 rfl (zg_ne rfl (mb_72 x)) (by decide +kernel) (by decide +kernel) (by decide +kernel) rfl ?_
  refine zw_aload_n 26 f129_25 rfl rfl ?_
  refine zw_getfield 29 f129_26 rfl g129_80_12 (zg_eq (mb_52 x)) (zg_ne rfl rfl) ?_
  refine zw_iload_n 30 f129_29 rfl rfl ?_
  refine zw_iconst 0 31 f129_30 rfl (by decide +kernel) ?_
  refine zw_iastoreS 7 32 f129_31 rfl (zg_ne rfl (mb_73 x)) (by decide +kernel) (by decide +kernel) (by decide +kernel) rfl ?_
  refine zw_aload_n 33 f129_32 rfl rfl ?_
  refine zw_getfield 36 f129_33 rfl g129_83_12 (zg_eq (mb_52 x)) (zg_ne rfl rfl) ?_
  refine zw_iload_n 37 f129_36 rfl rfl ?_
  refine zw_iconst 0 38 f129_37 rfl (by decide +kernel) ?_
  refine zw_iastoreS 7 39 f129_38 rfl (zg_ne rfl (mb_74 x)) (by decide +kernel) (by decide +kernel) (by decide +kernel) rfl ?_
  refine zw_iinc 8 [(1, .int 8), (0, .ref 52)] 42 f129_39 rfl rfl (by decide +kernel) (by decide +kernel) rfl ?_
  refine zw_goto 12 f129_42 (by decide +kernel) ?_
  refine zw_iload_n 13 f129_12 rfl rfl ?_
  refine zw_bipush 8 15 f129_13 rfl (by decide +kernel) ?_
  refine zw_ic_ge_t 45 f129_15 (by decide +kernel) (by decide +kernel) ?_
  refine zw_iconst 0 46 f129_45 rfl (by decide +kernel) ?_
  refine zw_istore_n [(1, .int 0), (0, .ref 52)] 47 f129_46 rfl (by decide +kernel) rfl ?_
  refine zw_iload_n 48 f129_47 rfl rfl ?_
  refine zw_aload_n 49 f129_48 rfl rfl ?_
  refine zw_getfield 52 f129_49 rfl g129_121_12 (zg_eq (mb_52 x)) (zg_ne rfl rfl) ?_
  refine zw_ic_ge_t 135 f129_52 (by decide +kernel) (by decide +kernel) ?_
  refine zw_iconst 0 136 f129_135 rfl (by decide +kernel) ?_
  refine zw_istore_n [(1, .int 0), (0, .ref 52)] 137 f129_136 rfl (by decide +kernel) rfl ?_
  refine zw_iload_n 138 f129_137 rfl rfl ?_
  refine zw_aload_n 139 f129_138 rfl rfl ?_
  refine zw_getfield 142 f129_139 rfl g129_114_12 (zg_eq (mb_52 x)) (zg_ne rfl rfl) ?_
  refine zw_ic_ge_t 156 f129_142 (by decide +kernel) (by decide +kernel) ?_
  refine zw_vreturn f129_156 r129 u129 ⟨rfl, ?_⟩
  refine zw_aload_n 5 f132_4 rfl rfl ?_
  refine zw_iconst 1 6 f132_5 rfl (by decide +kernel) ?_
  refine zw_putfieldS 9 f132_6 rfl g132_142_12 (zg_eq (mb_52 x)) rfl (zg_eq rfl) (by decide +kernel) ?_
  refine zw_iconst 0 10 f132_9 rfl (by decide +kernel) ?_
  refine zw_istore_n [(1, .int 0), (0, .ref 52)] 11 f132_10 rfl (by decide +kernel) rfl ?_
  refine zw_iload_n 12 f132_11 rfl rfl ?_
  refine zw_aload_n 13 f132_12 rfl rfl ?_
  refine zw_getfield 16 f132_13 rfl g132_114_12 (zg_eq (mb_52 x)) (zg_ne rfl rfl) ?_
  refine zw_ic_ge_t 179 f132_16 (by decide +kernel) (by decide +kernel) ?_
  refine zw_vreturn f132_179 r132 u132 ⟨rfl, ?_⟩
  refine zw_iload_n 139 f152_138 rfl rfl ?_
  refine zw_i2l a.toInt64 140 f152_139 rfl rfl ?_
  refine zw_aload_n 141 f152_140 rfl rfl ?_
  refine zw_getfield 144 f152_141 rfl g152_40_12 (zg_eq (mb_52 x)) (zg_ne rfl rfl) ?_
  refine zw_lmul a.toInt64 145 f152_144 rfl (Int64.mul_one _) ?_
  refine zw_aload_n 146 f152_145 rfl rfl ?_
  refine zw_getfield 149 f152_146 rfl g152_172_12 (zg_eq (mb_52 x)) (zg_ne rfl rfl) ?_
  refine zw_lcmp 1 150 f152_149 rfl (zl_pos h2).2 ?_
  refine zw_if_le_f 153 174 f152_150 (by decide +kernel) rfl (by decide +kernel) ?_
  refine zw_aload_n 154 f152_153 rfl rfl ?_
  refine zw_iload_n 155 f152_154 rfl rfl ?_
  refine zw_i2l a.toInt64 156 f152_155 rfl rfl ?_
  refine zw_aload_n 157 f152_156 rfl rfl ?_
  refine zw_getfield 160 f152_157 rfl g152_40_12 (zg_eq (mb_52 x)) (zg_ne rfl rfl) ?_
  refine zw_lmul a.toInt64 161 f152_160 rfl (Int64.mul_one _) ?_
  refine zw_aload_n 162 f152_161 rfl rfl ?_
  refine zw_getfield 165 f152_162 rfl g152_172_12 (zg_eq (mb_52 x)) (zg_ne rfl rfl) ?_
  refine zw_lsub a.toInt64 166 f152_165 rfl (Int64.sub_zero _) ?_
  refine zw_aload_n 167 f152_166 rfl rfl ?_
  refine zw_getfield 170 f152_167 rfl g152_40_12 (zg_eq (mb_52 x)) (zg_ne rfl rfl) ?_
  refine zw_virtual_i 173 0 0 [.ref 52, .long a.toInt64, .long 1] [(0, .ref 52), (1, .long a.toInt64), (3, .long 1)] f152_170 rfl n152_231 k152_231_12 rfl (zg_eq (mb_52 x)) (by decide +kernel) (Nat.le_of_ble_eq_true rfl) rfl rfl (by decide +kernel) (by decide +kernel) rfl (Nat.le_of_ble_eq_true rfl) rfl ?_
  refine zw_lload_n 1 f134_0 rfl rfl ?_
  refine zw_lload_n 2 f134_1 rfl rfl ?_
  refine zw_static_l 5 0 0 [.long a.toInt64, .long 1] [] [(0, .long a.toInt64), (2, .long 1)] f134_2 rfl k134_164_99 rfl (by decide +kernel) (Nat.le_of_ble_eq_true rfl) (Nat.le_of_ble_eq_true rfl) rfl rfl (by decide +kernel) (by decide +kernel) rfl (Nat.le_of_ble_eq_true rfl) rfl ?_
  refine zw_lload_n 1 f125_0 rfl rfl ?_
  refine zw_lconst 0 2 f125_1 rfl (by decide +kernel) ?_
  refine zw_lcmp 1 3 f125_2 rfl (zl_pos h2).2 ?_
  refine zw_if_ge_t 11 f125_3 (by decide +kernel) (by decide +kernel) ?_
  refine zw_lload_n 12 f125_11 rfl rfl ?_
  refine zw_lstore [(4, .long a.toInt64), (0, .long a.toInt64), (2, .long 1)] 14 f125_12 rfl (by decide +kernel) rfl ?_
  refine zw_lload_n 15 f125_14 rfl rfl ?_
  refine zw_lstore [(6, .long 1), (4, .long a.toInt64), (0, .long a.toInt64), (2, .long 1)] 17 f125_15 rfl (by decide +kernel) rfl ?_
  refine zw_lload 19 f125_17 rfl rfl ?_
  refine zw_lconst 0 20 f125_19 rfl (by decide +kernel) ?_
  refine zw_lcmp 1 21 f125_20 rfl (by decide +kernel) ?_
  refine zw_if_eq_f 24 42 f125_21 (by decide +kernel) rfl (by decide +kernel) ?_
  refine zw_lload 26 f125_24 rfl rfl ?_
  refine zw_lload 28 f125_26 rfl rfl ?_
  refine zw_lrem 0 29 f125_28 rfl (by decide +kernel) (zl_rem1 _) ?_
  refine zw_lstore [(8, .long 0), (6, .long 1), (4, .long a.toInt64), (0, .long a.toInt64), (2, .long 1)] 31 f125_29 rfl (by decide +kernel) rfl ?_
  refine zw_lload 33 f125_31 rfl rfl ?_
  refine zw_lstore [(4, .long 1), (8, .long 0), (6, .long 1), (0, .long a.toInt64), (2, .long 1)] 35 f125_33 rfl (by decide +kernel) rfl ?_
  refine zw_lload 37 f125_35 rfl rfl ?_
  refine zw_lstore [(6, .long 0), (4, .long 1), (8, .long 0), (0, .long a.toInt64), (2, .long 1)] 39 f125_37 rfl (by decide +kernel) rfl ?_
  refine zw_goto 17 f125_39 (by decide +kernel) ?_
  refine zw_lload 19 f125_17 rfl rfl ?_
  refine zw_lconst 0 20 f125_19 rfl (by decide +kernel) ?_
  refine zw_lcmp 0 21 f125_20 rfl (by decide +kernel) ?_
  refine zw_if_eq_t 42 f125_21 (by decide +kernel) (by decide +kernel) ?_
  refine zw_lload 44 f125_42 rfl rfl ?_
  refine zw_lreturn f125_44 r125 u125 ⟨_, rfl, ?_⟩
  refine zw_lstore [(5, .long 1), (0, .ref 52), (1, .long a.toInt64), (3, .long 1)] 7 f134_5 rfl (by decide +kernel) rfl ?_
  refine zw_lload_n 8 f134_7 rfl rfl ?_
  refine zw_lload 10 f134_8 rfl rfl ?_
  refine zw_ldiv a.toInt64 11 f134_10 rfl (by decide +kernel) (zl_div1 _) ?_
  refine zw_lstore [(7, .long a.toInt64), (5, .long 1), (0, .ref 52), (1, .long a.toInt64), (3, .long 1)] 13 f134_11 rfl (by decide +kernel) rfl ?_
  refine zw_lload_n 14 f134_13 rfl rfl ?_
  refine zw_lload 16 f134_14 rfl rfl ?_
  refine zw_ldiv 1 17 f134_16 rfl (by decide +kernel) (by decide +kernel) ?_
  refine zw_lstore [(9, .long 1), (7, .long a.toInt64), (5, .long 1), (0, .ref 52), (1, .long a.toInt64), (3, .long 1)] 19 f134_17 rfl (by decide +kernel) rfl ?_
  refine zw_aload_n 20 f134_19 rfl rfl ?_
  refine zw_getfield 23 f134_20 rfl g134_40_12 (zg_eq (mb_52 x)) (zg_ne rfl rfl) ?_
  refine zw_aload_n 24 f134_23 rfl rfl ?_
  refine zw_getfield 27 f134_24 rfl g134_40_12 (zg_eq (mb_52 x)) (zg_ne rfl rfl) ?_
  refine zw_lload 29 f134_27 rfl rfl ?_
  refine zw_static_l 32 0 0 [.long 1, .long 1] [.long 1] [(0, .long 1), (2, .long 1)] f134_29 rfl k134_164_99 rfl (by decide +kernel) (Nat.le_of_ble_eq_true rfl) (Nat.le_of_ble_eq_true rfl) rfl rfl (by decide +kernel) (by decide +kernel) rfl (Nat.le_of_ble_eq_true rfl) rfl ?_
  refine zw_lload_n 1 f125_0 rfl rfl ?_
  refine zw_lconst 0 2 f125_1 rfl (by decide +kernel) ?_
  refine zw_lcmp 1 3 f125_2 rfl (by decide +kernel) ?_
  refine zw_if_ge_t 11 f125_3 (by decide +kernel) (by decide +kernel) ?_
  refine zw_lload_n 12 f125_11 rfl rfl ?_
  refine zw_lstore [(4, .long 1), (0, .long 1), (2, .long 1)] 14 f125_12 rfl (by decide +kernel) rfl ?_
  refine zw_lload_n 15 f125_14 rfl rfl ?_
  refine zw_lstore [(6, .long 1), (4, .long 1), (0, .long 1), (2, .long 1)] 17 f125_15 rfl (by decide +kernel) rfl ?_
  refine zw_lload 19 f125_17 rfl rfl ?_
  refine zw_lconst 0 20 f125_19 rfl (by decide +kernel) ?_
  refine zw_lcmp 1 21 f125_20 rfl (by decide +kernel) ?_
  refine zw_if_eq_f 24 42 f125_21 (by decide +kernel) rfl (by decide +kernel) ?_
  refine zw_lload 26 f125_24 rfl rfl ?_
  refine zw_lload 28 f125_26 rfl rfl ?_
  refine zw_lrem 0 29 f125_28 rfl (by decide +kernel) (by decide +kernel) ?_
  refine zw_lstore [(8, .long 0), (6, .long 1), (4, .long 1), (0, .long 1), (2, .long 1)] 31 f125_29 rfl (by decide +kernel) rfl ?_
  refine zw_lload 33 f125_31 rfl rfl ?_
  refine zw_lstore [(4, .long 1), (8, .long 0), (6, .long 1), (0, .long 1), (2, .long 1)] 35 f125_33 rfl (by decide +kernel) rfl ?_
  refine zw_lload 37 f125_35 rfl rfl ?_
  refine zw_lstore [(6, .long 0), (4, .long 1), (8, .long 0), (0, .long 1), (2, .long 1)] 39 f125_37 rfl (by decide +kernel) rfl ?_
  refine zw_goto 17 f125_39 (by decide +kernel) ?_
  refine zw_lload 19 f125_17 rfl rfl ?_
  refine zw_lconst 0 20 f125_19 rfl (by decide +kernel) ?_
  refine zw_lcmp 0 21 f125_20 rfl (by decide +kernel) ?_
  refine zw_if_eq_t 42 f125_21 (by decide +kernel) (by decide +kernel) ?_
  refine zw_lload 44 f125_42 rfl rfl ?_
  refine zw_lreturn f125_44 r125 u125 ⟨_, rfl, ?_⟩
  refine zw_ldiv 1 33 f134_32 rfl (by decide +kernel) (by decide +kernel) ?_
  refine zw_lload 35 f134_33 rfl rfl ?_
  refine zw_lmul 1 36 f134_35 rfl (by decide +kernel) ?_
  refine zw_lstore [(11, .long 1), (9, .long 1), (7, .long a.toInt64), (5, .long 1), (0, .ref 52), (1, .long a.toInt64), (3, .long 1)] 38 f134_36 rfl (by decide +kernel) rfl ?_
  refine zw_aload_n 39 f134_38 rfl rfl ?_
  refine zw_lload 41 f134_39 rfl rfl ?_
  refine zw_putfield 44 f134_41 rfl g134_161_12 (zg_eq (mb_52 x)) rfl (zg_lt (zg_ne rfl rfl)) (by decide +kernel) ?_
  refine zw_iconst 0 45 f134_44 rfl (by decide +kernel) ?_
  refine zw_istore [(13, .int 0), (11, .long 1), (9, .long 1), (7, .long a.toInt64), (5, .long 1), (0, .ref 52), (1, .long a.toInt64), (3, .long 1)] 47 f134_45 rfl (by decide +kernel) rfl ?_
  refine zw_iload 49 f134_47 rfl rfl ?_
  refine zw_bipush 8 51 f134_49 rfl (by decide +kernel) ?_
  refine zw_ic_ge_f 54 92 f134_51 (by decide +kernel) rfl (by decide +kernel) ?_
  refine zw_aload_n 55 f134_54 rfl rfl ?_
  refine zw_getfield 58 f134_55 rfl g134_89_12 (zg_eq (zg_eq (mb_52 x))) (zg_ne rfl (zg_ne rfl rfl)) ?_
  refine zw_iload 60 f134_58 rfl rfl ?_
  refine zw_aload_n 61 f134_60 rfl rfl ?_
  refine zw_aload_n 62 f134_61 rfl rfl ?_
  refine zw_getfield 65 f134_62 rfl g134_44_12 (zg_eq (zg_eq (mb_52 x))) (zg_ne rfl (zg_ne rfl rfl)) ?_
  refine zw_iload 67 f134_65 rfl rfl ?_
  refine zw_laload 0 0 68 f134_67 rfl (zg_ne rfl (zg_ne rfl (mb_63 x))) (by decide +kernel) (by decide +kernel) (by decide +kernel) rfl ?_
  refine zw_aload_n 69 f134_68 rfl rfl ?_
  refine zw_getfield 72 f134_69 rfl g134_80_12 (zg_eq (zg_eq (mb_52 x))) (zg_ne rfl (zg_ne rfl rfl)) ?_
  refine zw_iload 74 f134_72 rfl rfl ?_
  refine zw_iaload 0 0 75 f134_74 rfl (zg_ne rfl (zg_ne rfl (mb_73 x))) (by decide +kernel) (by decide +kernel) (by decide +kernel) rfl ?_
  refine zw_i2l 0 76 f134_75 rfl (by decide +kernel) ?_
  refine zw_lload 78 f134_76 rfl rfl ?_
  refine zw_lload 80 f134_78 rfl rfl ?_
  refine zw_lload 82 f134_80 rfl rfl ?_
  refine zw_virtual_l 85 0 0 [.ref 52, .long 0, .long 0, .long a.toInt64, .long 1, .long 1] [(0, .ref 52), (1, .long 0), (3, .long 0), (5, .long a.toInt64), (7, .long 1), (9, .long 1)] f134_82 rfl n134_168 k134_168_12 rfl (zg_eq (zg_eq (mb_52 x))) (by decide +kernel) (Nat.le_of_ble_eq_true rfl) rfl rfl (by decide +kernel) (by decide +kernel) rfl (Nat.le_of_ble_eq_true rfl) rfl ?_
  refine zw_lload_n 1 f133_0 rfl rfl ?_
  refine zw_lload 3 f133_1 rfl rfl ?_
  refine zw_aload_n 4 f133_3 rfl rfl ?_
  refine zw_getfield 7 f133_4 rfl g133_40_12 (zg_eq (zg_eq (mb_52 x))) (zg_ne rfl (zg_ne rfl rfl)) ?_
  refine zw_ldiv 1 8 f133_7 rfl (by decide +kernel) (by decide +kernel) ?_
  refine zw_lmul 0 9 f133_8 rfl (by decide +kernel) ?_
  refine zw_lload_n 10 f133_9 rfl rfl ?_
  refine zw_lload 12 f133_10 rfl rfl ?_
  refine zw_lmul 0 13 f133_12 rfl (Int64.zero_mul) ?_
  refine zw_lload 15 f133_13 rfl rfl ?_
  refine zw_lload 17 f133_15 rfl rfl ?_
  refine zw_ldiv 1 18 f133_17 rfl (by decide +kernel) (by decide +kernel) ?_
  refine zw_lmul 0 19 f133_18 rfl (by decide +kernel) ?_
  refine zw_ladd 0 20 f133_19 rfl (by decide +kernel) ?_
  refine zw_lstore [(11, .long 0), (0, .ref 52), (1, .long 0), (3, .long 0), (5, .long a.toInt64), (7, .long 1), (9, .long 1)] 22 f133_20 rfl (by decide +kernel) rfl ?_
  refine zw_aload_n 23 f133_22 rfl rfl ?_
  refine zw_lload 25 f133_23 rfl rfl ?_
  refine zw_aload_n 26 f133_25 rfl rfl ?_
  refine zw_getfield 29 f133_26 rfl g133_161_12 (zg_eq (zg_eq (mb_52 x))) (zg_eq (zg_ne rfl rfl)) ?_
  refine zw_static_l 32 0 0 [.long 0, .long 1] [.ref 52] [(0, .long 0), (2, .long 1)] f133_29 rfl k133_164_99 rfl (by decide +kernel) (Nat.le_of_ble_eq_true rfl) (Nat.le_of_ble_eq_true rfl) rfl rfl (by decide +kernel) (by decide +kernel) rfl (Nat.le_of_ble_eq_true rfl) rfl ?_
  refine zw_lload_n 1 f125_0 rfl rfl ?_
  refine zw_lconst 0 2 f125_1 rfl (by decide +kernel) ?_
  refine zw_lcmp 0 3 f125_2 rfl (by decide +kernel) ?_
  refine zw_if_ge_t 11 f125_3 (by decide +kernel) (by decide +kernel) ?_
  refine zw_lload_n 12 f125_11 rfl rfl ?_
  refine zw_lstore [(4, .long 0), (0, .long 0), (2, .long 1)] 14 f125_12 rfl (by decide +kernel) rfl ?_
  refine zw_lload_n 15 f125_14 rfl rfl ?_
  refine zw_lstore [(6, .long 1), (4, .long 0), (0, .long 0), (2, .long 1)] 17 f125_15 rfl (by decide +kernel) rfl ?_
  refine zw_lload 19 f125_17 rfl rfl ?_
  refine zw_lconst 0 20 f125_19 rfl (by decide +kernel) ?_
  refine zw_lcmp 1 21 f125_20 rfl (by decide +kernel) ?_
  refine zw_if_eq_f 24 42 f125_21 (by decide +kernel) rfl (by decide +kernel) ?_
  refine zw_lload 26 f125_24 rfl rfl ?_
  refine zw_lload 28 f125_26 rfl rfl ?_
  refine zw_lrem 0 29 f125_28 rfl (by decide +kernel) (by decide +kernel) ?_
  refine zw_lstore [(8, .long 0), (6, .long 1), (4, .long 0), (0, .long 0), (2, .long 1)] 31 f125_29 rfl (by decide +kernel) rfl ?_
  refine zw_lload 33 f125_31 rfl rfl ?_
  refine zw_lstore [(4, .long 1), (8, .long 0), (6, .long 1), (0, .long 0), (2, .long 1)] 35 f125_33 rfl (by decide +kernel) rfl ?_
  refine zw_lload 37 f125_35 rfl rfl ?_
  refine zw_lstore [(6, .long 0), (4, .long 1), (8, .long 0), (0, .long 0), (2, .long 1)] 39 f125_37 rfl (by decide +kernel) rfl ?_
  refine zw_goto 17 f125_39 (by decide +kernel) ?_
  refine zw_lload 19 f125_17 rfl rfl ?_
  refine zw_lconst 0 20 f125_19 rfl (by decide +kernel) ?_
  refine zw_lcmp 0 21 f125_20 rfl (by decide +kernel) ?_
  refine zw_if_eq_t 42 f125_21 (by decide +kernel) (by decide +kernel) ?_
  refine zw_lload 44 f125_42 rfl rfl ?_
  refine zw_lreturn f125_44 r125 u125 ⟨_, rfl, ?_⟩
  refine zw_putfieldS 35 f133_32 rfl g133_161_12 (zg_eq (zg_eq (mb_52 x))) rfl (zg_eq (zg_ne rfl rfl)) (by decide +kernel) ?_
  refine zw_lload 37 f133_35 rfl rfl ?_
  refine zw_lreturn f133_37 r133 u133 ⟨_, rfl, ?_⟩
  refine zw_lastoreS 0 86 f134_85 rfl (zg_ne rfl (zg_ne rfl (mb_76 x))) (by decide +kernel) (by decide +kernel) (by decide +kernel) rfl ?_
  refine zw_iinc 1 [(13, .int 1), (11, .long 1), (9, .long 1), (7, .long a.toInt64), (5, .long 1), (0, .ref 52), (1, .long a.toInt64), (3, .long 1)] 89 f134_86 rfl rfl (by decide +kernel) (by decide +kernel) rfl ?_
  refine zw_goto 47 f134_89 (by decide +kernel) ?_
  refine zw_iload 49 f134_47 rfl rfl ?_
  refine zw_bipush 8 51 f134_49 rfl (by decide +kernel) ?_
  refine zw_ic_ge_f 54 92 f134_51 (by decide +kernel) rfl (by decide +kernel) ?_
  refine zw_aload_n 55 f134_54 rfl rfl ?_
  refine zw_getfield 58 f134_55 rfl g134_89_12 (zg_eq (zg_eq (mb_52 x))) (zg_ne rfl (zg_ne rfl rfl)) ?_
  refine zw_iload 60 f134_58 rfl rfl ?_
  refine zw_aload_n 61 f134_60 rfl rfl ?_
  refine zw_aload_n 62 f134_61 rfl rfl ?_
  refine zw_getfield 65 f134_62 rfl g134_44_12 (zg_eq (zg_eq (mb_52 x))) (zg_ne rfl (zg_ne rfl rfl)) ?_
  refine zw_iload 67 f134_65 rfl rfl ?_
  refine zw_laload 1 0 68 f134_67 rfl (zg_ne rfl (zg_ne rfl (mb_63 x))) (by decide +kernel) (by decide +kernel) (by decide +kernel) rfl ?_
  refine zw_aload_n 69 f134_68 rfl rfl ?_
  refine zw_getfield 72 f134_69 rfl g134_80_12 (zg_eq (zg_eq (mb_52 x))) (zg_ne rfl (zg_ne rfl rfl)) ?_
  refine zw_iload 74 f134_72 rfl rfl ?_
  refine zw_iaload 1 0 75 f134_74 rfl (zg_ne rfl (zg_ne rfl (mb_73 x))) (by decide +kernel) (by decide +kernel) (by decide +kernel) rfl ?_
  refine zw_i2l 0 76 f134_75 rfl (by decide +kernel) ?_
  refine zw_lload 78 f134_76 rfl rfl ?_
  refine zw_lload 80 f134_78 rfl rfl ?_
  refine zw_lload 82 f134_80 rfl rfl ?_
  refine zw_virtual_l 85 0 0 [.ref 52, .long 0, .long 0, .long a.toInt64, .long 1, .long 1] [(0, .ref 52), (1, .long 0), (3, .long 0), (5, .long a.toInt64), (7, .long 1), (9, .long 1)] f134_82 rfl n134_168 k134_168_12 rfl (zg_eq (zg_eq (mb_52 x))) (by decide +kernel) (Nat.le_of_ble_eq_true rfl) rfl rfl (by decide +kernel) (by decide +kernel) rfl (Nat.le_of_ble_eq_true rfl) rfl ?_
  refine zw_lload_n 1 f133_0 rfl rfl ?_
  refine zw_lload 3 f133_1 rfl rfl ?_
  refine zw_aload_n 4 f133_3 rfl rfl ?_
  refine zw_getfield 7 f133_4 rfl g133_40_12 (zg_eq (zg_eq (mb_52 x))) (zg_ne rfl (zg_ne rfl rfl)) ?_
  refine zw_ldiv 1 8 f133_7 rfl (by decide +kernel) (by decide +kernel) ?_
  refine zw_lmul 0 9 f133_8 rfl (by decide +kernel) ?_
  refine zw_lload_n 10 f133_9 rfl rfl ?_
  refine zw_lload 12 f133_10 rfl rfl ?_
  refine zw_lmul 0 13 f133_12 rfl (Int64.zero_mul) ?_
  refine zw_lload 15 f133_13 rfl rfl ?_
  refine zw_lload 17 f133_15 rfl rfl ?_
  refine zw_ldiv 1 18 f133_17 rfl (by decide +kernel) (by decide +kernel) ?_
  refine zw_lmul 0 19 f133_18 rfl (by decide +kernel) ?_
  refine zw_ladd 0 20 f133_19 rfl (by decide +kernel) ?_
  refine zw_lstore [(11, .long 0), (0, .ref 52), (1, .long 0), (3, .long 0), (5, .long a.toInt64), (7, .long 1), (9, .long 1)] 22 f133_20 rfl (by decide +kernel) rfl ?_
  refine zw_aload_n 23 f133_22 rfl rfl ?_
  refine zw_lload 25 f133_23 rfl rfl ?_
  refine zw_aload_n 26 f133_25 rfl rfl ?_
  refine zw_getfield 29 f133_26 rfl g133_161_12 (zg_eq (zg_eq (mb_52 x))) (zg_eq (zg_ne rfl rfl)) ?_
  refine zw_static_l 32 0 0 [.long 0, .long 1] [.ref 52] [(0, .long 0), (2, .long 1)] f133_29 rfl k133_164_99 rfl (by decide +kernel) (Nat.le_of_ble_eq_true rfl) (Nat.le_of_ble_eq_true rfl) rfl rfl (by decide +kernel) (by decide +kernel) rfl (Nat.le_of_ble_eq_true rfl) rfl ?_
  refine zw_lload_n 1 f125_0 rfl rfl ?_
  refine zw_lconst 0 2 f125_1 rfl (by decide +kernel) ?_
  refine zw_lcmp 0 3 f125_2 rfl (by decide +kernel) ?_
  refine zw_if_ge_t 11 f125_3 (by decide +kernel) (by decide +kernel) ?_
  refine zw_lload_n 12 f125_11 rfl rfl ?_
  refine zw_lstore [(4, .long 0), (0, .long 0), (2, .long 1)] 14 f125_12 rfl (by decide +kernel) rfl ?_
  refine zw_lload_n 15 f125_14 rfl rfl ?_
  refine zw_lstore [(6, .long 1), (4, .long 0), (0, .long 0), (2, .long 1)] 17 f125_15 rfl (by decide +kernel) rfl ?_
  refine zw_lload 19 f125_17 rfl rfl ?_
  refine zw_lconst 0 20 f125_19 rfl (by decide +kernel) ?_
  refine zw_lcmp 1 21 f125_20 rfl (by decide +kernel) ?_
  refine zw_if_eq_f 24 42 f125_21 (by decide +kernel) rfl (by decide +kernel) ?_
  refine zw_lload 26 f125_24 rfl rfl ?_
  refine zw_lload 28 f125_26 rfl rfl ?_
  refine zw_lrem 0 29 f125_28 rfl (by decide +kernel) (by decide +kernel) ?_
  refine zw_lstore [(8, .long 0), (6, .long 1), (4, .long 0), (0, .long 0), (2, .long 1)] 31 f125_29 rfl (by decide +kernel) rfl ?_
  refine zw_lload 33 f125_31 rfl rfl ?_
  refine zw_lstore [(4, .long 1), (8, .long 0), (6, .long 1), (0, .long 0), (2, .long 1)] 35 f125_33 rfl (by decide +kernel) rfl ?_
  refine zw_lload 37 f125_35 rfl rfl ?_
  refine zw_lstore [(6, .long 0), (4, .long 1), (8, .long 0), (0, .long 0), (2, .long 1)] 39 f125_37 rfl (by decide +kernel) rfl ?_
  refine zw_goto 17 f125_39 (by decide +kernel) ?_
  refine zw_lload 19 f125_17 rfl rfl ?_
  refine zw_lconst 0 20 f125_19 rfl (by decide +kernel) ?_
  refine zw_lcmp 0 21 f125_20 rfl (by decide +kernel) ?_
  refine zw_if_eq_t 42 f125_21 (by decide +kernel) (by decide +kernel) ?_
  refine zw_lload 44 f125_42 rfl rfl ?_
  refine zw_lreturn f125_44 r125 u125 ⟨_, rfl, ?_⟩
  refine zw_putfieldS 35 f133_32 rfl g133_161_12 (zg_eq (zg_eq (mb_52 x))) rfl (zg_eq (zg_ne rfl rfl)) (by decide +kernel) ?_
  refine zw_lload 37 f133_35 rfl rfl ?_
  refine zw_lreturn f133_37 r133 u133 ⟨_, rfl, ?_⟩
  refine zw_lastoreS 1 86 f134_85 rfl (zg_ne rfl (zg_ne rfl (mb_76 x))) (by decide +kernel) (by decide +kernel) (by decide +kernel) rfl ?_
  refine zw_iinc 2 [(13, .int 2), (11, .long 1), (9, .long 1), (7, .long a.toInt64), (5, .long 1), (0, .ref 52), (1, .long a.toInt64), (3, .long 1)] 89 f134_86 rfl rfl (by decide +kernel) (by decide +kernel) rfl ?_
  refine zw_goto 47 f134_89 (by decide +kernel) ?_
  refine zw_iload 49 f134_47 rfl rfl ?_
  refine zw_bipush 8 51 f134_49 rfl (by decide +kernel) ?_
  refine zw_ic_ge_f 54 92 f134_51 (by decide +kernel) rfl (by decide +kernel) ?_
  refine zw_aload_n 55 f134_54 rfl rfl ?_
  refine zw_getfield 58 f134_55 rfl g134_89_12 (zg_eq (zg_eq (mb_52 x))) (zg_ne rfl (zg_ne rfl rfl)) ?_
  refine zw_iload 60 f134_58 rfl rfl ?_
  refine zw_aload_n 61 f134_60 rfl rfl ?_
  refine zw_aload_n 62 f134_61 rfl rfl ?_
  refine zw_getfield 65 f134_62 rfl g134_44_12 (zg_eq (zg_eq (mb_52 x))) (zg_ne rfl (zg_ne rfl rfl)) ?_
  refine zw_iload 67 f134_65 rfl rfl ?_
  refine zw_laload 2 0 68 f134_67 rfl (zg_ne rfl (zg_ne rfl (mb_63 x))) (by decide +kernel) (by decide +kernel) (by decide +kernel) rfl ?_
  refine zw_aload_n 69 f134_68 rfl rfl ?_
  refine zw_getfield 72 f134_69 rfl g134_80_12 (zg_eq (zg_eq (mb_52 x))) (zg_ne rfl (zg_ne rfl rfl)) ?_
  refine zw_iload 74 f134_72 rfl rfl ?_
  refine zw_iaload 2 0 75 f134_74 rfl (zg_ne rfl (zg_ne rfl (mb_73 x))) (by decide +kernel) (by decide +kernel) (by decide +kernel) rfl ?_
  refine zw_i2l 0 76 f134_75 rfl (by decide +kernel) ?_
  refine zw_lload 78 f134_76 rfl rfl ?_
  refine zw_lload 80 f134_78 rfl rfl ?_
  refine zw_lload 82 f134_80 rfl rfl ?_
  refine zw_virtual_l 85 0 0 [.ref 52, .long 0, .long 0, .long a.toInt64, .long 1, .long 1] [(0, .ref 52), (1, .long 0), (3, .long 0), (5, .long a.toInt64), (7, .long 1), (9, .long 1)] f134_82 rfl n134_168 k134_168_12 rfl (zg_eq (zg_eq (mb_52 x))) (by decide +kernel) (Nat.le_of_ble_eq_true rfl) rfl rfl (by decide +kernel) (by decide +kernel) rfl (Nat.le_of_ble_eq_true rfl) rfl ?_
  refine zw_lload_n 1 f133_0 rfl rfl ?_
  refine zw_lload 3 f133_1 rfl rfl ?_
  refine zw_aload_n 4 f133_3 rfl rfl ?_
  refine zw_getfield 7 f133_4 rfl g133_40_12 (zg_eq (zg_eq (mb_52 x))) (zg_ne rfl (zg_ne rfl rfl)) ?_
  refine zw_ldiv 1 8 f133_7 rfl (by decide +kernel) (by decide +kernel) ?_
  refine zw_lmul 0 9 f133_8 rfl (by decide +kernel) ?_
  refine zw_lload_n 10 f133_9 rfl rfl ?_
  refine zw_lload 12 f133_10 rfl rfl ?_
  refine zw_lmul 0 13 f133_12 rfl (Int64.zero_mul) ?_
  refine zw_lload 15 f133_13 rfl rfl ?_
  refine zw_lload 17 f133_15 rfl rfl ?_
  refine zw_ldiv 1 18 f133_17 rfl (by decide +kernel) (by decide +kernel) ?_
  refine zw_lmul 0 19 f133_18 rfl (by decide +kernel) ?_
  refine zw_ladd 0 20 f133_19 rfl (by decide +kernel) ?_
  refine zw_lstore [(11, .long 0), (0, .ref 52), (1, .long 0), (3, .long 0), (5, .long a.toInt64), (7, .long 1), (9, .long 1)] 22 f133_20 rfl (by decide +kernel) rfl ?_
  refine zw_aload_n 23 f133_22 rfl rfl ?_
  refine zw_lload 25 f133_23 rfl rfl ?_
  refine zw_aload_n 26 f133_25 rfl rfl ?_
  refine zw_getfield 29 f133_26 rfl g133_161_12 (zg_eq (zg_eq (mb_52 x))) (zg_eq (zg_ne rfl rfl)) ?_
  refine zw_static_l 32 0 0 [.long 0, .long 1] [.ref 52] [(0, .long 0), (2, .long 1)] f133_29 rfl k133_164_99 rfl (by decide +kernel) (Nat.le_of_ble_eq_true rfl) (Nat.le_of_ble_eq_true rfl) rfl rfl (by decide +kernel) (by decide +kernel) rfl (Nat.le_of_ble_eq_true rfl) rfl ?_
  refine zw_lload_n 1 f125_0 rfl rfl ?_
  refine zw_lconst 0 2 f125_1 rfl (by decide +kernel) ?_
  refine zw_lcmp 0 3 f125_2 rfl (by decide +kernel) ?_
  refine zw_if_ge_t 11 f125_3 (by decide +kernel) (by decide +kernel) ?_
  refine zw_lload_n 12 f125_11 rfl rfl ?_
  refine zw_lstore [(4, .long 0), (0, .long 0), (2, .long 1)] 14 f125_12 rfl (by decide +kernel) rfl ?_
  refine zw_lload_n 15 f125_14 rfl rfl ?_
  refine zw_lstore [(6, .long 1), (4, .long 0), (0, .long 0), (2, .long 1)] 17 f125_15 rfl (by decide +kernel) rfl ?_
  refine zw_lload 19 f125_17 rfl rfl ?_
  refine zw_lconst 0 20 f125_19 rfl (by decide +kernel) ?_
  refine zw_lcmp 1 21 f125_20 rfl (by decide +kernel) ?_
  refine zw_if_eq_f 24 42 f125_21 (by decide +kernel) rfl (by decide +kernel) ?_
  refine zw_lload 26 f125_24 rfl rfl ?_
  refine zw_lload 28 f125_26 rfl rfl ?_
  refine zw_lrem 0 29 f125_28 rfl (by decide +kernel) (by decide +kernel) ?_
  refine zw_lstore [(8, .long 0), (6, .long 1), (4, .long 0), (0, .long 0), (2, .long 1)] 31 f125_29 rfl (by decide +kernel) rfl ?_
  refine zw_lload 33 f125_31 rfl rfl ?_
  refine zw_lstore [(4, .long 1), (8, .long 0), (6, .long 1), (0, .long 0), (2, .long 1)] 35 f125_33 rfl (by decide +kernel) rfl ?_
  refine zw_lload 37 f125_35 rfl rfl ?_
  refine zw_lstore [(6, .long 0), (4, .long 1), (8, .long 0), (0, .long 0), (2, .long 1)] 39 f125_37 rfl (by decide +kernel) rfl ?_
  refine zw_goto 17 f125_39 (by decide +kernel) ?_
  refine zw_lload 19 f125_17 rfl rfl ?_
  refine zw_lconst 0 20 f125_19 rfl (by decide +kernel) ?_
  refine zw_lcmp 0 21 f125_20 rfl (by decide +kernel) ?_
  refine zw_if_eq_t 42 f125_21 (by decide +kernel) (by decide +kernel) ?_
  refine zw_lload 44 f125_42 rfl rfl ?_
  refine zw_lreturn f125_44 r125 u125 ⟨_, rfl, ?_⟩
  refine zw_putfieldS 35 f133_32 rfl g133_161_12 (zg_eq (zg_eq (mb_52 x))) rfl (zg_eq (zg_ne rfl rfl)) (by decide +kernel) ?_
  refine zw_lload 37 f133_35 rfl rfl ?_
  refine zw_lreturn f133_37 r133 u133 ⟨_, rfl, ?_⟩
  refine zw_lastoreS 2 86 f134_85 rfl (zg_ne rfl (zg_ne rfl (mb_76 x))) (by decide +kernel) (by decide +kernel) (by decide +kernel) rfl ?_
  refine zw_iinc 3 [(13, .int 3), (11, .long 1), (9, .long 1), (7, .long a.toInt64), (5, .long 1), (0, .ref 52), (1, .long a.toInt64), (3, .long 1)] 89 f134_86 rfl rfl (by decide +kernel) (by decide +kernel) rfl ?_
  refine zw_goto 47 f134_89 (by decide +kernel) ?_
  refine zw_iload 49 f134_47 rfl rfl ?_
  refine zw_bipush 8 51 f134_49 rfl (by decide +kernel) ?_
  refine zw_ic_ge_f 54 92 f134_51 (by decide +kernel) rfl (by decide +kernel) ?_
  refine zw_aload_n 55 f134_54 rfl rfl ?_
  refine zw_getfield 58 f134_55 rfl g134_89_12 (zg_eq (zg_eq (mb_52 x))) (zg_ne rfl (zg_ne rfl rfl)) ?_
  refine zw_iload 60 f134_58 rfl rfl ?_
  refine zw_aload_n 61 f134_60 rfl rfl ?_
  refine zw_aload_n 62 f134_61 rfl rfl ?_
  refine zw_getfield 65 f134_62 rfl g134_44_12 (zg_eq (zg_eq (mb_52 x))) (zg_ne rfl (zg_ne rfl rfl)) ?_
  refine zw_iload 67 f134_65 rfl rfl ?_
  refine zw_laload 3 0 68 f134_67 rfl (zg_ne rfl (zg_ne rfl (mb_63 x))) (by decide +kernel) (by decide +kernel) (by decide +kernel) rfl ?_
  refine zw_aload_n 69 f134_68 rfl rfl ?_
  refine zw_getfield 72 f134_69 rfl g134_80_12 (zg_eq (zg_eq (mb_52 x))) (zg_ne rfl (zg_ne rfl rfl)) ?_
  refine zw_iload 74 f134_72 rfl rfl ?_
  refine zw_iaload 3 0 75 f134_74 rfl (zg_ne rfl (zg_ne rfl (mb_73 x))) (by decide +kernel) (by decide +kernel) (by decide +kernel) rfl ?_
  refine zw_i2l 0 76 f134_75 rfl (by decide +kernel) ?_
  refine zw_lload 78 f134_76 rfl rfl ?_
  refine zw_lload 80 f134_78 rfl rfl ?_
  refine zw_lload 82 f134_80 rfl rfl ?_
  refine zw_virtual_l 85 0 0 [.ref 52, .long 0, .long 0, .long a.toInt64, .long 1, .long 1] [(0, .ref 52), (1, .long 0), (3, .long 0), (5, .long a.toInt64), (7, .long 1), (9, .long 1)] f134_82 rfl n134_168 k134_168_12 rfl (zg_eq (zg_eq (mb_52 x))) (by decide +kernel) (Nat.le_of_ble_eq_true rfl) rfl rfl (by decide +kernel) (by decide +kernel) rfl (Nat.le_of_ble_eq_true rfl) rfl ?_
  refine zw_lload_n 1 f133_0 rfl rfl ?_
  refine zw_lload 3 f133_1 rfl rfl ?_
  refine zw_aload_n 4 f133_3 rfl rfl ?_
  refine zw_getfield 7 f133_4 rfl g133_40_12 (zg_eq (zg_eq (mb_52 x))) (zg_ne rfl (zg_ne rfl rfl)) ?_
  refine zw_ldiv 1 8 f133_7 rfl (by decide +kernel) (by decide +kernel) ?_
  refine zw_lmul 0 9 f133_8 rfl (by decide +kernel) ?_
  refine zw_lload_n 10 f133_9 rfl rfl ?_
  refine zw_lload 12 f133_10 rfl rfl ?_
  refine zw_lmul 0 13 f133_12 rfl (Int64.zero_mul) ?_
  refine zw_lload 15 f133_13 rfl rfl ?_
  refine zw_lload 17 f133_15 rfl rfl ?_
  refine zw_ldiv 1 18 f133_17 rfl (by decide +kernel) (by decide +kernel) ?_
  refine zw_lmul 0 19 f133_18 rfl (by decide +kernel) ?_
  refine zw_ladd 0 20 f133_19 rfl (by decide +kernel) ?_
  refine zw_lstore [(11, .long 0), (0, .ref 52), (1, .long 0), (3, .long 0), (5, .long a.toInt64), (7, .long 1), (9, .long 1)] 22 f133_20 rfl (by decide +kernel) rfl ?_
  refine zw_aload_n 23 f133_22 rfl rfl ?_
  refine zw_lload 25 f133_23 rfl rfl ?_
  refine zw_aload_n 26 f133_25 rfl rfl ?_
  refine zw_getfield 29 f133_26 rfl g133_161_12 (zg_eq (zg_eq (mb_52 x))) (zg_eq (zg_ne rfl rfl)) ?_
  refine zw_static_l 32 0 0 [.long 0, .long 1] [.ref 52] [(0, .long 0), (2, .long 1)] f133_29 rfl k133_164_99 rfl (by decide +kernel) (Nat.le_of_ble_eq_true rfl) (Nat.le_of_ble_eq_true rfl) rfl rfl (by decide +kernel) (by decide +kernel) rfl (Nat.le_of_ble_eq_true rfl) rfl ?_
  refine zw_lload_n 1 f125_0 rfl rfl ?_
  refine zw_lconst 0 2 f125_1 rfl (by decide +kernel) ?_
  refine zw_lcmp 0 3 f125_2 rfl (by decide +kernel) ?_
  refine zw_if_ge_t 11 f125_3 (by decide +kernel) (by decide +kernel) ?_
  refine zw_lload_n 12 f125_11 rfl rfl ?_
  refine zw_lstore [(4, .long 0), (0, .long 0), (2, .long 1)] 14 f125_12 rfl (by decide +kernel) rfl ?_
  refine zw_lload_n 15 f125_14 rfl rfl ?_
  refine zw_lstore [(6, .long 1), (4, .long 0), (0, .long 0), (2, .long 1)] 17 f125_15 rfl (by decide +kernel) rfl ?_
  refine zw_lload 19 f125_17 rfl rfl ?_
  refine zw_lconst 0 20 f125_19 rfl (by decide +kernel) ?_
  refine zw_lcmp 1 21 f125_20 rfl (by decide +kernel) ?_
  refine zw_if_eq_f 24 42 f125_21 (by decide +kernel) rfl (by decide +kernel) ?_
  refine zw_lload 26 f125_24 rfl rfl ?_
  refine zw_lload 28 f125_26 rfl rfl ?_
  refine zw_lrem 0 29 f125_28 rfl (by decide +kernel) (by decide +kernel) ?_
  refine zw_lstore [(8, .long 0), (6, .long 1), (4, .long 0), (0, .long 0), (2, .long 1)] 31 f125_29 rfl (by decide +kernel) rfl ?_
  refine zw_lload 33 f125_31 rfl rfl ?_
  refine zw_lstore [(4, .long 1), (8, .long 0), (6, .long 1), (0, .long 0), (2, .long 1)] 35 f125_33 rfl (by decide +kernel) rfl ?_
  refine zw_lload 37 f125_35 rfl rfl ?_
  refine zw_lstore [(6, .long 0), (4, .long 1), (8, .long 0), (0, .long 0), (2, .long 1)] 39 f125_37 rfl (by decide +kernel) rfl ?_
  refine zw_goto 17 f125_39 (by decide +kernel) ?_
  refine zw_lload 19 f125_17 rfl rfl ?_
  refine zw_lconst 0 20 f125_19 rfl (by decide +kernel) ?_
  refine zw_lcmp 0 21 f125_20 rfl (by decide +kernel) ?_
  refine zw_if_eq_t 42 f125_21 (by decide +kernel) (by decide +kernel) ?_
  refine zw_lload 44 f125_42 rfl rfl ?_
  refine zw_lreturn f125_44 r125 u125 ⟨_, rfl, ?_⟩
  refine zw_putfieldS 35 f133_32 rfl g133_161_12 (zg_eq (zg_eq (mb_52 x))) rfl (zg_eq (zg_ne rfl rfl)) (by decide +kernel) ?_
  refine zw_lload 37 f133_35 rfl rfl ?_
  refine zw_lreturn f133_37 r133 u133 ⟨_, rfl, ?_⟩
  refine zw_lastoreS 3 86 f134_85 rfl (zg_ne rfl (zg_ne rfl (mb_76 x))) (by decide +kernel) (by decide +kernel) (by decide +kernel) rfl ?_
  refine zw_iinc 4 [(13, .int 4), (11, .long 1), (9, .long 1), (7, .long a.toInt64), (5, .long 1), (0, .ref 52), (1, .long a.toInt64), (3, .long 1)] 89 f134_86 rfl rfl (by decide +kernel) (by decide +kernel) rfl ?_
  refine zw_goto 47 f134_89 (by decide +kernel) ?_
  refine zw_iload 49 f134_47 rfl rfl ?_
  refine zw_bipush 8 51 f134_49 rfl (by decide +kernel) ?_
  refine zw_ic_ge_f 54 92 f134_51 (by decide +kernel) rfl (by decide +kernel) ?_
  refine zw_aload_n 55 f134_54 rfl rfl ?_
  refine zw_getfield 58 f134_55 rfl g134_89_12 (zg_eq (zg_eq (mb_52 x))) (zg_ne rfl (zg_ne rfl rfl)) ?_
  refine zw_iload 60 f134_58 rfl rfl ?_
  refine zw_aload_n 61 f134_60 rfl rfl ?_
  refine zw_aload_n 62 f134_61 rfl rfl ?_
  refine zw_getfield 65 f134_62 rfl g134_44_12 (zg_eq (zg_eq (mb_52 x))) (zg_ne rfl (zg_ne rfl rfl)) ?_
  refine zw_iload 67 f134_65 rfl rfl ?_
  refine zw_laload 4 0 68 f134_67 rfl (zg_ne rfl (zg_ne rfl (mb_63 x))) (by decide +kernel) (by decide +kernel) (by decide +kernel) rfl ?_
  refine zw_aload_n 69 f134_68 rfl rfl ?_
  refine zw_getfield 72 f134_69 rfl g134_80_12 (zg_eq (zg_eq (mb_52 x))) (zg_ne rfl (zg_ne rfl rfl)) ?_
  refine zw_iload 74 f134_72 rfl rfl ?_
  refine zw_iaload 4 0 75 f134_74 rfl (zg_ne rfl (zg_ne rfl (mb_73 x))) (by decide +kernel) (by decide +kernel) (by decide +kernel) rfl ?_
  refine zw_i2l 0 76 f134_75 rfl (by decide +kernel) ?_
  refine zw_lload 78 f134_76 rfl rfl ?_
  refine zw_lload 80 f134_78 rfl rfl ?_
  refine zw_lload 82 f134_80 rfl rfl ?_
  refine zw_virtual_l 85 0 0 [.ref 52, .long 0, .long 0, .long a.toInt64, .long 1, .long 1] [(0, .ref 52), (1, .long 0), (3, .long 0), (5, .long a.toInt64), (7, .long 1), (9, .long 1)] f134_82 rfl n134_168 k134_168_12 rfl (zg_eq (zg_eq (mb_52 x))) (by decide +kernel) (Nat.le_of_ble_eq_true rfl) rfl rfl (by decide +kernel) (by decide +kernel) rfl (Nat.le_of_ble_eq_true rfl) rfl ?_
  refine zw_lload_n 1 f133_0 rfl rfl ?_
  refine zw_lload 3 f133_1 rfl rfl ?_
  refine zw_aload_n 4 f133_3 rfl rfl ?_
  refine zw_getfield 7 f133_4 rfl g133_40_12 (zg_eq (zg_eq (mb_52 x))) (zg_ne rfl (zg_ne rfl rfl)) ?_
  refine zw_ldiv 1 8 f133_7 rfl (by decide +kernel) (by decide +kernel) ?_
  refine zw_lmul 0 9 f133_8 rfl (by decide +kernel) ?_
  refine zw_lload_n 10 f133_9 rfl rfl ?_
  refine zw_lload 12 f133_10 rfl rfl ?_
  refine zw_lmul 0 13 f133_12 rfl (Int64.zero_mul) ?_
  refine zw_lload 15 f133_13 rfl rfl ?_
  refine zw_lload 17 f133_15 rfl rfl ?_
  refine zw_ldiv 1 18 f133_17 rfl (by decide +kernel) (by decide +kernel) ?_
  refine zw_lmul 0 19 f133_18 rfl (by decide +kernel) ?_
  refine zw_ladd 0 20 f133_19 rfl (by decide +kernel) ?_
  refine zw_lstore [(11, .long 0), (0, .ref 52), (1, .long 0), (3, .long 0), (5, .long a.toInt64), (7, .long 1), (9, .long 1)] 22 f133_20 rfl (by decide +kernel) rfl ?_
  refine zw_aload_n 23 f133_22 rfl rfl ?_
  refine zw_lload 25 f133_23 rfl rfl ?_
  refine zw_aload_n 26 f133_25 rfl rfl ?_
  refine zw_getfield 29 f133_26 rfl g133_161_12 (zg_eq (zg_eq (mb_52 x))) (zg_eq (zg_ne rfl rfl)) ?_
  refine zw_static_l 32 0 0 [.long 0, .long 1] [.ref 52] [(0, .long 0), (2, .long 1)] f133_29 rfl k133_164_99 rfl (by decide +kernel) (Nat.le_of_ble_eq_true rfl) (Nat.le_of_ble_eq_true rfl) rfl rfl (by decide +kernel) (by decide +kernel) rfl (Nat.le_of_ble_eq_true rfl) rfl ?_
  refine zw_lload_n 1 f125_0 rfl rfl ?_
  refine zw_lconst 0 2 f125_1 rfl (by decide +kernel) ?_
  refine zw_lcmp 0 3 f125_2 rfl (by decide +kernel) ?_
  refine zw_if_ge_t 11 f125_3 (by decide +kernel) (by decide +kernel) ?_
  refine zw_lload_n 12 f125_11 rfl rfl ?_
  refine zw_lstore [(4, .long 0), (0, .long 0), (2, .long 1)] 14 f125_12 rfl (by decide +kernel) rfl ?_
  refine zw_lload_n 15 f125_14 rfl rfl ?_
  refine zw_lstore [(6, .long 1), (4, .long 0), (0, .long 0), (2, .long 1)] 17 f125_15 rfl (by decide +kernel) rfl ?_
  refine zw_lload 19 f125_17 rfl rfl ?_
  refine zw_lconst 0 20 f125_19 rfl (by decide +kernel) ?_
  refine zw_lcmp 1 21 f125_20 rfl (by decide +kernel) ?_
  refine zw_if_eq_f 24 42 f125_21 (by decide +kernel) rfl (by decide +kernel) ?_
  refine zw_lload 26 f125_24 rfl rfl ?_
  refine zw_lload 28 f125_26 rfl rfl ?_
  refine zw_lrem 0 29 f125_28 rfl (by decide +kernel) (by decide +kernel) ?_
  refine zw_lstore [(8, .long 0), (6, .long 1), (4, .long 0), (0, .long 0), (2, .long 1)] 31 f125_29 rfl (by decide +kernel) rfl ?_
  refine zw_lload 33 f125_31 rfl rfl ?_
  refine zw_lstore [(4, .long 1), (8, .long 0), (6, .long 1), (0, .long 0), (2, .long 1)] 35 f125_33 rfl (by decide +kernel) rfl ?_
  refine zw_lload 37 f125_35 rfl rfl ?_
  refine zw_lstore [(6, .long 0), (4, .long 1), (8, .long 0), (0, .long 0), (2, .long 1)] 39 f125_37 rfl (by decide +kernel) rfl ?_
  refine zw_goto 17 f125_39 (by decide +kernel) ?_
  refine zw_lload 19 f125_17 rfl rfl ?_
  refine zw_lconst 0 20 f125_19 rfl (by decide +kernel) ?_
  refine zw_lcmp 0 21 f125_20 rfl (by decide +kernel) ?_
  refine zw_if_eq_t 42 f125_21 (by decide +kernel) (by decide +kernel) ?_
  refine zw_lload 44 f125_42 rfl rfl ?_
  refine zw_lreturn f125_44 r125 u125 ⟨_, rfl, ?_⟩
  refine zw_putfieldS 35 f133_32 rfl g133_161_12 (zg_eq (zg_eq (mb_52 x))) rfl (zg_eq (zg_ne rfl rfl)) (by decide +kernel) ?_
  refine zw_lload 37 f133_35 rfl rfl ?_
  refine zw_lreturn f133_37 r133 u133 ⟨_, rfl, ?_⟩
  refine zw_lastoreS 4 86 f134_85 rfl (zg_ne rfl (zg_ne rfl (mb_76 x))) (by decide +kernel) (by decide +kernel) (by decide +kernel) rfl ?_
  refine zw_iinc 5 [(13, .int 5), (11, .long 1), (9, .long 1), (7, .long a.toInt64), (5, .long 1), (0, .ref 52), (1, .long a.toInt64), (3, .long 1)] 89 f134_86 rfl rfl (by decide +kernel) (by decide +kernel) rfl ?_
  refine zw_goto 47 f134_89 (by decide +kernel) ?_
  refine zw_iload 49 f134_47 rfl rfl ?_
  refine zw_bipush 8 51 f134_49 rfl (by decide +kernel) ?_
  refine zw_ic_ge_f 54 92 f134_51 (by decide +kernel) rfl (by decide +kernel) ?_
  refine zw_aload_n 55 f134_54 rfl rfl ?_
  refine zw_getfield 58 f134_55 rfl g134_89_12 (zg_eq (zg_eq (mb_52 x))) (zg_ne rfl (zg_ne rfl rfl)) ?_
  refine zw_iload 60 f134_58 rfl rfl ?_
  refine zw_aload_n 61 f134_60 rfl rfl ?_
  refine zw_aload_n 62 f134_61 rfl rfl ?_
  refine zw_getfield 65 f134_62 rfl g134_44_12 (zg_eq (zg_eq (mb_52 x))) (zg_ne rfl (zg_ne rfl rfl)) ?_
  refine zw_iload 67 f134_65 rfl rfl ?_
  refine zw_laload 5 0 68 f134_67 rfl (zg_ne rfl (zg_ne rfl (mb_63 x))) (by decide +kernel) (by decide +kernel) (by decide +kernel) rfl ?_
  refine zw_aload_n 69 f134_68 rfl rfl ?_
  refine zw_getfield 72 f134_69 rfl g134_80_12 (zg_eq (zg_eq (mb_52 x))) (zg_ne rfl (zg_ne rfl rfl)) ?_
  refine zw_iload 74 f134_72 rfl rfl ?_
  refine zw_iaload 5 0 75 f134_74 rfl (zg_ne rfl (zg_ne rfl (mb_73 x))) (by decide +kernel) (by decide +kernel) (by decide +kernel) rfl ?_
  refine zw_i2l 0 76 f134_75 rfl (by decide +kernel) ?_
  refine zw_lload 78 f134_76 rfl rfl ?_
  refine zw_lload 80 f134_78 rfl rfl ?_
  refine zw_lload 82 f134_80 rfl rfl ?_
  refine zw_virtual_l 85 0 0 [.ref 52, .long 0, .long 0, .long a.toInt64, .long 1, .long 1] [(0, .ref 52), (1, .long 0), (3, .long 0), (5, .long a.toInt64), (7, .long 1), (9, .long 1)] f134_82 rfl n134_168 k134_168_12 rfl (zg_eq (zg_eq (mb_52 x))) (by decide +kernel) (Nat.le_of_ble_eq_true rfl) rfl rfl (by decide +kernel) (by decide +kernel) rfl (Nat.le_of_ble_eq_true rfl) rfl ?_
  refine zw_lload_n 1 f133_0 rfl rfl ?_
  refine zw_lload 3 f133_1 rfl rfl ?_
  refine zw_aload_n 4 f133_3 rfl rfl ?_
  refine zw_getfield 7 f133_4 rfl g133_40_12 (zg_eq (zg_eq (mb_52 x))) (zg_ne rfl (zg_ne rfl rfl)) ?_
  refine zw_ldiv 1 8 f133_7 rfl (by decide +kernel) (by decide +kernel) ?_
  refine zw_lmul 0 9 f133_8 rfl (by decide +kernel) ?_
  refine zw_lload_n 10 f133_9 rfl rfl ?_
  refine zw_lload 12 f133_10 rfl rfl ?_
  refine zw_lmul 0 13 f133_12 rfl (Int64.zero_mul) ?_
  refine zw_lload 15 f133_13 rfl rfl ?_
  refine zw_lload 17 f133_15 rfl rfl ?_
  refine zw_ldiv 1 18 f133_17 rfl (by decide +kernel) (by decide +kernel) ?_
  refine zw_lmul 0 19 f133_18 rfl (by decide +kernel) ?_
  refine zw_ladd 0 20 f133_19 rfl (by decide +kernel) ?_
  refine zw_lstore [(11, .long 0), (0, .ref 52), (1, .long 0), (3, .long 0), (5, .long a.toInt64), (7, .long 1), (9, .long 1)] 22 f133_20 rfl (by decide +kernel) rfl ?_
  refine zw_aload_n 23 f133_22 rfl rfl ?_
  refine zw_lload 25 f133_23 rfl rfl ?_
  refine zw_aload_n 26 f133_25 rfl rfl ?_
  refine zw_getfield 29 f133_26 rfl g133_161_12 (zg_eq (zg_eq (mb_52 x))) (zg_eq (zg_ne rfl rfl)) ?_
  refine zw_static_l 32 0 0 [.long 0, .long 1] [.ref 52] [(0, .long 0), (2, .long 1)] f133_29 rfl k133_164_99 rfl (by decide +kernel) (Nat.le_of_ble_eq_true rfl) (Nat.le_of_ble_eq_true rfl) rfl rfl (by decide +kernel) (by decide +kernel) rfl (Nat.le_of_ble_eq_true rfl) rfl ?_
  refine zw_lload_n 1 f125_0 rfl rfl ?_
  refine zw_lconst 0 2 f125_1 rfl (by decide +kernel) ?_
  refine zw_lcmp 0 3 f125_2 rfl (by decide +kernel) ?_
  refine zw_if_ge_t 11 f125_3 (by decide +kernel) (by decide +kernel) ?_
  refine zw_lload_n 12 f125_11 rfl rfl ?_
  refine zw_lstore [(4, .long 0), (0, .long 0), (2, .long 1)] 14 f125_12 rfl (by decide +kernel) rfl ?_
  refine zw_lload_n 15 f125_14 rfl rfl ?_
  refine zw_lstore [(6, .long 1), (4, .long 0), (0, .long 0), (2, .long 1)] 17 f125_15 rfl (by decide +kernel) rfl ?_
  refine zw_lload 19 f125_17 rfl rfl ?_
  refine zw_lconst 0 20 f125_19 rfl (by decide +kernel) ?_
  refine zw_lcmp 1 21 f125_20 rfl (by decide +kernel) ?_
  refine zw_if_eq_f 24 42 f125_21 (by decide +kernel) rfl (by decide +kernel) ?_
  refine zw_lload 26 f125_24 rfl rfl ?_
  refine zw_lload 28 f125_26 rfl rfl ?_
  refine zw_lrem 0 29 f125_28 rfl (by decide +kernel) (by decide +kernel) ?_
  refine zw_lstore [(8, .long 0), (6, .long 1), (4, .long 0), (0, .long 0), (2, .long 1)] 31 f125_29 rfl (by decide +kernel) rfl ?_
  refine zw_lload 33 f125_31 rfl rfl ?_
  refine zw_lstore [(4, .long 1), (8, .long 0), (6, .long 1), (0, .long 0), (2, .long 1)] 35 f125_33 rfl (by decide +kernel) rfl ?_
  refine zw_lload 37 f125_35 rfl rfl ?_
  refine zw_lstore [(6, .long 0), (4, .long 1), (8, .long 0), (0, .long 0), (2, .long 1)] 39 f125_37 rfl (by decide +kernel) rfl ?_
  refine zw_goto 17 f125_39 (by decide +kernel) ?_
  refine zw_lload 19 f125_17 rfl rfl ?_
  refine zw_lconst 0 20 f125_19 rfl (by decide +kernel) ?_
  refine zw_lcmp 0 21 f125_20 rfl (by decide +kernel) ?_
  refine zw_if_eq_t 42 f125_21 (by decide +kernel) (by decide +kernel) ?_
  refine zw_lload 44 f125_42 rfl rfl ?_
  refine zw_lreturn f125_44 r125 u125 ⟨_, rfl, ?_⟩
  refine zw_putfieldS 35 f133_32 rfl g133_161_12 (zg_eq (zg_eq (mb_52 x))) rfl (zg_eq (zg_ne rfl rfl)) (by decide +kernel) ?_
  refine zw_lload 37 f133_35 rfl rfl ?_
  refine zw_lreturn f133_37 r133 u133 ⟨_, rfl, ?_⟩
  refine zw_lastoreS 5 86 f134_85 rfl (zg_ne rfl (zg_ne rfl (mb_76 x))) (by decide +kernel) (by decide +kernel) (by decide +kernel) rfl ?_
  refine zw_iinc 6 [(13, .int 6), (11, .long 1), (9, .long 1), (7, .long a.toInt64), (5, .long 1), (0, .ref 52), (1, .long a.toInt64), (3, .long 1)] 89 f134_86 rfl rfl (by decide +kernel) (by decide +kernel) rfl ?_
  refine zw_goto 47 f134_89 (by decide +kernel) ?_
  refine zw_iload 49 f134_47 rfl rfl ?_
  refine zw_bipush 8 51 f134_49 rfl (by decide +kernel) ?_
  refine zw_ic_ge_f 54 92 f134_51 (by decide +kernel) rfl (by decide +kernel) ?_
  refine zw_aload_n 55 f134_54 rfl rfl ?_
  refine zw_getfield 58 f134_55 rfl g134_89_12 (zg_eq (zg_eq (mb_52 x))) (zg_ne rfl (zg_ne rfl rfl)) ?_
  refine zw_iload 60 f134_58 rfl rfl ?_
  refine zw_aload_n 61 f134_60 rfl rfl ?_
  refine zw_aload_n 62 f134_61 rfl rfl ?_
  refine zw_getfield 65 f134_62 rfl g134_44_12 (zg_eq (zg_eq (mb_52 x))) (zg_ne rfl (zg_ne rfl rfl)) ?_
  refine zw_iload 67 f134_65 rfl rfl ?_
  refine zw_laload 6 0 68 f134_67 rfl (zg_ne rfl (zg_ne rfl (mb_63 x))) (by decide +kernel) (by decide +kernel) (by decide +kernel) rfl ?_
  refine zw_aload_n 69 f134_68 rfl rfl ?_
  refine zw_getfield 72 f134_69 rfl g134_80_12 (zg_eq (zg_eq (mb_52 x))) (zg_ne rfl (zg_ne rfl rfl)) ?_
  refine zw_iload 74 f134_72 rfl rfl ?_
  refine zw_iaload 6 0 75 f134_74 rfl (zg_ne rfl (zg_ne rfl (mb_73 x))) (by decide +kernel) (by decide +kernel) (by decide +kernel) rfl ?_
  refine zw_i2l 0 76 f134_75 rfl (by decide +kernel) ?_
  refine zw_lload 78 f134_76 rfl rfl ?_
  refine zw_lload 80 f134_78 rfl rfl ?_
  refine zw_lload 82 f134_80 rfl rfl ?_
  refine zw_virtual_l 85 0 0 [.ref 52, .long 0, .long 0, .long a.toInt64, .long 1, .long 1] [(0, .ref 52), (1, .long 0), (3, .long 0), (5, .long a.toInt64), (7, .long 1), (9, .long 1)] f134_82 rfl n134_168 k134_168_12 rfl (zg_eq (zg_eq (mb_52 x))) (by decide +kernel) (Nat.le_of_ble_eq_true rfl) rfl rfl (by decide +kernel) (by decide +kernel) rfl (Nat.le_of_ble_eq_true rfl) rfl ?_
  refine zw_lload_n 1 f133_0 rfl rfl ?_
  refine zw_lload 3 f133_1 rfl rfl ?_
  refine zw_aload_n 4 f133_3 rfl rfl ?_
  refine zw_getfield 7 f133_4 rfl g133_40_12 (zg_eq (zg_eq (mb_52 x))) (zg_ne rfl (zg_ne rfl rfl)) ?_
  refine zw_ldiv 1 8 f133_7 rfl (by decide +kernel) (by decide +kernel) ?_
  refine zw_lmul 0 9 f133_8 rfl (by decide +kernel) ?_
  refine zw_lload_n 10 f133_9 rfl rfl ?_
  refine zw_lload 12 f133_10 rfl rfl ?_
  refine zw_lmul 0 13 f133_12 rfl (Int64.zero_mul) ?_
  refine zw_lload 15 f133_13 rfl rfl ?_
  refine zw_lload 17 f133_15 rfl rfl ?_
  refine zw_ldiv 1 18 f133_17 rfl (by decide +kernel) (by decide +kernel) ?_
  refine zw_lmul 0 19 f133_18 rfl (by decide +kernel) ?_
  refine zw_ladd 0 20 f133_19 rfl (by decide +kernel) ?_
  refine zw_lstore [(11, .long 0), (0, .ref 52), (1, .long 0), (3, .long 0), (5, .long a.toInt64), (7, .long 1), (9, .long 1)] 22 f133_20 rfl (by decide +kernel) rfl ?_
  refine zw_aload_n 23 f133_22 rfl rfl ?_
  refine zw_lload 25 f133_23 rfl rfl ?_
  refine zw_aload_n 26 f133_25 rfl rfl ?_
  refine zw_getfield 29 f133_26 rfl g133_161_12 (zg_eq (zg_eq (mb_52 x))) (zg_eq (zg_ne rfl rfl)) ?_
  refine zw_static_l 32 0 0 [.long 0, .long 1] [.ref 52] [(0, .long 0), (2, .long 1)] f133_29 rfl k133_164_99 rfl (by decide +kernel) (Nat.le_of_ble_eq_true rfl) (Nat.le_of_ble_eq_true rfl) rfl rfl (by decide +kernel) (by decide +kernel) rfl (Nat.le_of_ble_eq_true rfl) rfl ?_
  refine zw_lload_n 1 f125_0 rfl rfl ?_
  refine zw_lconst 0 2 f125_1 rfl (by decide +kernel) ?_
  refine zw_lcmp 0 3 f125_2 rfl (by decide +kernel) ?_
  refine zw_if_ge_t 11 f125_3 (by decide +kernel) (by decide +kernel) ?_
  refine zw_lload_n 12 f125_11 rfl rfl ?_
  refine zw_lstore [(4, .long 0), (0, .long 0), (2, .long 1)] 14 f125_12 rfl (by decide +kernel) rfl ?_
  refine zw_lload_n 15 f125_14 rfl rfl ?_
  refine zw_lstore [(6, .long 1), (4, .long 0), (0, .long 0), (2, .long 1)] 17 f125_15 rfl (by decide +kernel) rfl ?_
  refine zw_lload 19 f125_17 rfl rfl ?_
  refine zw_lconst 0 20 f125_19 rfl (by decide +kernel) ?_
  refine zw_lcmp 1 21 f125_20 rfl (by decide +kernel) ?_
  refine zw_if_eq_f 24 42 f125_21 (by decide +kernel) rfl (by decide +kernel) ?_
  refine zw_lload 26 f125_24 rfl rfl ?_
  refine zw_lload 28 f125_26 rfl rfl ?_
  refine zw_lrem 0 29 f125_28 rfl (by decide +kernel) (by decide +kernel) ?_
  refine zw_lstore [(8, .long 0), (6, .long 1), (4, .long 0), (0, .long 0), (2, .long 1)] 31 f125_29 rfl (by decide +kernel) rfl ?_
  refine zw_lload 33 f125_31 rfl rfl ?_
  refine zw_lstore [(4, .long 1), (8, .long 0), (6, .long 1), (0, .long 0), (2, .long 1)] 35 f125_33 rfl (by decide +kernel) rfl ?_
  refine zw_lload 37 f125_35 rfl rfl ?_
  refine zw_lstore [(6, .long 0), (4, .long 1), (8, .long 0), (0, .long 0), (2, .long 1)] 39 f125_37 rfl (by decide +kernel) rfl ?_
  refine zw_goto 17 f125_39 (by decide +kernel) ?_
  refine zw_lload 19 f125_17 rfl rfl ?_
  refine zw_lconst 0 20 f125_19 rfl (by decide +kernel) ?_
  refine zw_lcmp 0 21 f125_20 rfl (by decide +kernel) ?_
  refine zw_if_eq_t 42 f125_21 (by decide +kernel) (by decide +kernel) ?_
  refine zw_lload 44 f125_42 rfl rfl ?_
  refine zw_lreturn f125_44 r125 u125 ⟨_, rfl, ?_⟩
  refine zw_putfieldS 35 f133_32 rfl g133_161_12 (zg_eq (zg_eq (mb_52 x))) rfl (zg_eq (zg_ne rfl rfl)) (by decide +kernel) ?_
  refine zw_lload 37 f133_35 rfl rfl ?_
  refine zw_lreturn f133_37 r133 u133 ⟨_, rfl, ?_⟩
  refine zw_lastoreS 6 86 f134_85 rfl (zg_ne rfl (zg_ne rfl (mb_76 x))) (by decide +kernel) (by decide +kernel) (by decide +kernel) rfl ?_
  refine zw_iinc 7 [(13, .int 7), (11, .long 1), (9, .long 1), (7, .long a.toInt64), (5, .long 1), (0, .ref 52), (1, .long a.toInt64), (3, .long 1)] 89 f134_86 rfl rfl (by decide +kernel) (by decide +kernel) rfl ?_
  refine zw_goto 47 f134_89 (by decide +kernel) ?_
  refine zw_iload 49 f134_47 rfl rfl ?_
  refine zw_bipush 8 51 f134_49 rfl (by decide +kernel) ?_
  refine zw_ic_ge_f 54 92 f134_51 (by decide +kernel) rfl (by decide +kernel) ?_
  refine zw_aload_n 55 f134_54 rfl rfl ?_
  refine zw_getfield 58 f134_55 rfl g134_89_12 (zg_eq (zg_eq (mb_52 x))) (zg_ne rfl (zg_ne rfl rfl)) ?_
  refine zw_iload 60 f134_58 rfl rfl ?_
  refine zw_aload_n 61 f134_60 rfl rfl ?_
  refine zw_aload_n 62 f134_61 rfl rfl ?_
  refine zw_getfield 65 f134_62 rfl g134_44_12 (zg_eq (zg_eq (mb_52 x))) (zg_ne rfl (zg_ne rfl rfl)) ?_
  refine zw_iload 67 f134_65 rfl rfl ?_
  refine zw_laload 7 0 68 f134_67 rfl (zg_ne rfl (zg_ne rfl (mb_63 x))) (by decide +kernel) (by decide +kernel) (by decide +kernel) rfl ?_
  refine zw_aload_n 69 f134_68 rfl rfl ?_
  refine zw_getfield 72 f134_69 rfl g134_80_12 (zg_eq (zg_eq (mb_52 x))) (zg_ne rfl (zg_ne rfl rfl)) ?_
  refine zw_iload 74 f134_72 rfl rfl ?_
  refine zw_iaload 7 0 75 f134_74 rfl (zg_ne rfl (zg_ne rfl (mb_73 x))) (by decide +kernel) (by decide +kernel) (by decide +kernel) rfl ?_
  refine zw_i2l 0 76 f134_75 rfl (by decide +kernel) ?_
  refine zw_lload 78 f134_76 rfl rfl ?_
  refine zw_lload 80 f134_78 rfl rfl ?_
  refine zw_lload 82 f134_80 rfl rfl ?_
  refine zw_virtual_l 85 0 0 [.ref 52, .long 0, .long 0, .long a.toInt64, .long 1, .long 1] [(0, .ref 52), (1, .long 0), (3, .long 0), (5, .long a.toInt64), (7, .long 1), (9, .long 1)] f134_82 rfl n134_168 k134_168_12 rfl (zg_eq (zg_eq (mb_52 x))) (by decide +kernel) (Nat.le_of_ble_eq_true rfl) rfl rfl (by decide +kernel) (by decide +kernel) rfl (Nat.le_of_ble_eq_true rfl) rfl ?_
  refine zw_lload_n 1 f133_0 rfl rfl ?_
  refine zw_lload 3 f133_1 rfl rfl ?_
  refine zw_aload_n 4 f133_3 rfl rfl ?_
  refine zw_getfield 7 f133_4 rfl g133_40_12 (zg_eq (zg_eq (mb_52 x))) (zg_ne rfl (zg_ne rfl rfl)) ?_
  refine zw_ldiv 1 8 f133_7 rfl (by decide +kernel) (by decide +kernel) ?_
  refine zw_lmul 0 9 f133_8 rfl (by decide +kernel) ?_
  refine zw_lload_n 10 f133_9 rfl rfl ?_
  refine zw_lload 12 f133_10 rfl rfl ?_
  refine zw_lmul 0 13 f133_12 rfl (Int64.zero_mul) ?_
  refine zw_lload 15 f133_13 rfl rfl ?_
  refine zw_lload 17 f133_15 rfl rfl ?_
  refine zw_ldiv 1 18 f133_17 rfl (by decide +kernel) (by decide +kernel) ?_
  refine zw_lmul 0 19 f133_18 rfl (by decide +kernel) ?_
  refine zw_ladd 0 20 f133_19 rfl (by decide +kernel) ?_
  refine zw_lstore [(11, .long 0), (0, .ref 52), (1, .long 0), (3, .long 0), (5, .long a.toInt64), (7, .long 1), (9, .long 1)] 22 f133_20 rfl (by decide +kernel) rfl ?_
  refine zw_aload_n 23 f133_22 rfl rfl ?_
  refine zw_lload 25 f133_23 rfl rfl ?_
  refine zw_aload_n 26 f133_25 rfl rfl ?_
  refine zw_getfield 29 f133_26 rfl g133_161_12 (zg_eq (zg_eq (mb_52 x))) (zg_eq (zg_ne rfl rfl)) ?_
  refine zw_static_l 32 0 0 [.long 0, .long 1] [.ref 52] [(0, .long 0), (2, .long 1)] f133_29 rfl k133_164_99 rfl (by decide +kernel) (Nat.le_of_ble_eq_true rfl) (Nat.le_of_ble_eq_true rfl) rfl rfl (by decide +kernel) (by decide +kernel) rfl (Nat.le_of_ble_eq_true rfl) rfl ?_
  refine zw_lload_n 1 f125_0 rfl rfl ?_
  refine zw_lconst 0 2 f125_1 rfl (by decide +kernel) ?_
  refine zw_lcmp 0 3 f125_2 rfl (by decide +kernel) ?_
  refine zw_if_ge_t 11 f125_3 (by decide +kernel) (by decide +kernel) ?_
  refine zw_lload_n 12 f125_11 rfl rfl ?_
  refine zw_lstore [(4, .long 0), (0, .long 0), (2, .long 1)] 14 f125_12 rfl (by decide +kernel) rfl ?_
  refine zw_lload_n 15 f125_14 rfl rfl ?_
  refine zw_lstore [(6, .long 1), (4, .long 0), (0, .long 0), (2, .long 1)] 17 f125_15 rfl (by decide +kernel) rfl ?_
  refine zw_lload 19 f125_17 rfl rfl ?_
  refine zw_lconst 0 20 f125_19 rfl (by decide +kernel) ?_
  refine zw_lcmp 1 21 f125_20 rfl (by decide +kernel) ?_
  refine zw_if_eq_f 24 42 f125_21 (by decide +kernel) rfl (by decide +kernel) ?_
  refine zw_lload 26 f125_24 rfl rfl ?_
  refine zw_lload 28 f125_26 rfl rfl ?_
  refine zw_lrem 0 29 f125_28 rfl (by decide +kernel) (by decide +kernel) ?_
  refine zw_lstore [(8, .long 0), (6, .long 1), (4, .long 0), (0, .long 0), (2, .long 1)] 31 f125_29 rfl (by decide +kernel) rfl ?_
  refine zw_lload 33 f125_31 rfl rfl ?_
  refine zw_lstore [(4, .long 1), (8, .long 0), (6, .long 1), (0, .long 0), (2, .long 1)] 35 f125_33 rfl (by decide +kernel) rfl ?_
  refine zw_lload 37 f125_35 rfl rfl ?_
  refine zw_lstore [(6, .long 0), (4, .long 1), (8, .long 0), (0, .long 0), (2, .long 1)] 39 f125_37 rfl (by decide +kernel) rfl ?_
  refine zw_goto 17 f125_39 (by decide +kernel) ?_
  refine zw_lload 19 f125_17 rfl rfl ?_
  refine zw_lconst 0 20 f125_19 rfl (by decide +kernel) ?_
  refine zw_lcmp 0 21 f125_20 rfl (by decide +kernel) ?_
  refine zw_if_eq_t 42 f125_21 (by decide +kernel) (by decide +kernel) ?_
  refine zw_lload 44 f125_42 rfl rfl ?_
  refine zw_lreturn f125_44 r125 u125 ⟨_, rfl, ?_⟩
  refine zw_putfieldS 35 f133_32 rfl g133_161_12 (zg_eq (zg_eq (mb_52 x))) rfl (zg_eq (zg_ne rfl rfl)) (by decide +kernel) ?_
  refine zw_lload 37 f133_35 rfl rfl ?_
  refine zw_lreturn f133_37 r133 u133 ⟨_, rfl, ?_⟩
  refine zw_lastoreS 7 86 f134_85 rfl (zg_ne rfl (zg_ne rfl (mb_76 x))) (by decide +kernel) (by decide +kernel) (by decide +kernel) rfl ?_
  refine zw_iinc 8 [(13, .int 8), (11, .long 1), (9, .long 1), (7, .long a.toInt64), (5, .long 1), (0, .ref 52), (1, .long a.toInt64), (3, .long 1)] 89 f134_86 rfl rfl (by decide +kernel) (by decide +kernel) rfl ?_
  refine zw_goto 47 f134_89 (by decide +kernel) ?_
  refine zw_iload 49 f134_47 rfl rfl ?_
  refine zw_bipush 8 51 f134_49 rfl (by decide +kernel) ?_
  refine zw_ic_ge_t 92 f134_51 (by decide +kernel) (by decide +kernel) ?_
  refine zw_aload_n 93 f134_92 rfl rfl ?_
  refine zw_getfield 96 f134_93 rfl g134_89_12 (zg_eq (zg_eq (mb_52 x))) (zg_ne rfl (zg_ne rfl rfl)) ?_
  refine zw_bipush 8 98 f134_96 rfl (by decide +kernel) ?_
  refine zw_aload_n 99 f134_98 rfl rfl ?_
  refine zw_aload_n 100 f134_99 rfl rfl ?_
  refine zw_getfield 103 f134_100 rfl g134_172_12 (zg_eq (zg_eq (mb_52 x))) (zg_ne rfl (zg_ne rfl rfl)) ?_
  refine zw_lconst 1 104 f134_103 rfl (by decide +kernel) ?_
  refine zw_lload 106 f134_104 rfl rfl ?_
  refine zw_lload 108 f134_106 rfl rfl ?_
  refine zw_lload 110 f134_108 rfl rfl ?_
  refine zw_virtual_l 113 0 0 [.ref 52, .long 0, .long 1, .long a.toInt64, .long 1, .long 1] [(0, .ref 52), (1, .long 0), (3, .long 1), (5, .long a.toInt64), (7, .long 1), (9, .long 1)] f134_110 rfl n134_168 k134_168_12 rfl (zg_eq (zg_eq (mb_52 x))) (by decide +kernel) (Nat.le_of_ble_eq_true rfl) rfl rfl (by decide +kernel) (by decide +kernel) rfl (Nat.le_of_ble_eq_true rfl) rfl ?_
  refine zw_lload_n 1 f133_0 rfl rfl ?_
  refine zw_lload 3 f133_1 rfl rfl ?_
  refine zw_aload_n 4 f133_3 rfl rfl ?_
  refine zw_getfield 7 f133_4 rfl g133_40_12 (zg_eq (zg_eq (mb_52 x))) (zg_ne rfl (zg_ne rfl rfl)) ?_
  refine zw_ldiv 1 8 f133_7 rfl (by decide +kernel) (by decide +kernel) ?_
  refine zw_lmul 0 9 f133_8 rfl (by decide +kernel) ?_
  refine zw_lload_n 10 f133_9 rfl rfl ?_
  refine zw_lload 12 f133_10 rfl rfl ?_
  refine zw_lmul a.toInt64 13 f133_12 rfl (Int64.one_mul _) ?_
  refine zw_lload 15 f133_13 rfl rfl ?_
  refine zw_lload 17 f133_15 rfl rfl ?_
  refine zw_ldiv 1 18 f133_17 rfl (by decide +kernel) (by decide +kernel) ?_
  refine zw_lmul a.toInt64 19 f133_18 rfl (Int64.mul_one _) ?_
  refine zw_ladd a.toInt64 20 f133_19 rfl (Int64.zero_add _) ?_
  refine zw_lstore [(11, .long a.toInt64), (0, .ref 52), (1, .long 0), (3, .long 1), (5, .long a.toInt64), (7, .long 1), (9, .long 1)] 22 f133_20 rfl (by decide +kernel) rfl ?_
  refine zw_aload_n 23 f133_22 rfl rfl ?_
  refine zw_lload 25 f133_23 rfl rfl ?_
  refine zw_aload_n 26 f133_25 rfl rfl ?_
  refine zw_getfield 29 f133_26 rfl g133_161_12 (zg_eq (zg_eq (mb_52 x))) (zg_eq (zg_ne rfl rfl)) ?_
  refine zw_static_l 32 0 0 [.long a.toInt64, .long 1] [.ref 52] [(0, .long a.toInt64), (2, .long 1)] f133_29 rfl k133_164_99 rfl (by decide +kernel) (Nat.le_of_ble_eq_true rfl) (Nat.le_of_ble_eq_true rfl) rfl rfl (by decide +kernel) (by decide +kernel) rfl (Nat.le_of_ble_eq_true rfl) rfl ?_
  refine zw_lload_n 1 f125_0 rfl rfl ?_
  refine zw_lconst 0 2 f125_1 rfl (by decide +kernel) ?_
  refine zw_lcmp 1 3 f125_2 rfl (zl_pos h2).2 ?_
  refine zw_if_ge_t 11 f125_3 (by decide +kernel) (by decide +kernel) ?_
  refine zw_lload_n 12 f125_11 rfl rfl ?_
  refine zw_lstore [(4, .long a.toInt64), (0, .long a.toInt64), (2, .long 1)] 14 f125_12 rfl (by decide +kernel) rfl ?_
  refine zw_lload_n 15 f125_14 rfl rfl ?_
  refine zw_lstore [(6, .long 1), (4, .long a.toInt64), (0, .long a.toInt64), (2, .long 1)] 17 f125_15 rfl (by decide +kernel) rfl ?_
  refine zw_lload 19 f125_17 rfl rfl ?_
  refine zw_lconst 0 20 f125_19 rfl (by decide +kernel) ?_
  refine zw_lcmp 1 21 f125_20 rfl (by decide +kernel) ?_
  refine zw_if_eq_f 24 42 f125_21 (by decide +kernel) rfl (by decide +kernel) ?_
  refine zw_lload 26 f125_24 rfl rfl ?_
  refine zw_lload 28 f125_26 rfl rfl ?_
  refine zw_lrem 0 29 f125_28 rfl (by decide +kernel) (zl_rem1 _) ?_
  refine zw_lstore [(8, .long 0), (6, .long 1), (4, .long a.toInt64), (0, .long a.toInt64), (2, .long 1)] 31 f125_29 rfl (by decide +kernel) rfl ?_
  refine zw_lload 33 f125_31 rfl rfl ?_
  refine zw_lstore [(4, .long 1), (8, .long 0), (6, .long 1), (0, .long a.toInt64), (2, .long 1)] 35 f125_33 rfl (by decide +kernel) rfl ?_
  refine zw_lload 37 f125_35 rfl rfl ?_
  refine zw_lstore [(6, .long 0), (4, .long 1), (8, .long 0), (0, .long a.toInt64), (2, .long 1)] 39 f125_37 rfl (by decide +kernel) rfl ?_
  refine zw_goto 17 f125_39 (by decide +kernel) ?_
  refine zw_lload 19 f125_17 rfl rfl ?_
  refine zw_lconst 0 20 f125_19 rfl (by decide +kernel) ?_
  refine zw_lcmp 0 21 f125_20 rfl (by decide +kernel) ?_
  refine zw_if_eq_t 42 f125_21 (by decide +kernel) (by decide +kernel) ?_
  refine zw_lload 44 f125_42 rfl rfl ?_
  refine zw_lreturn f125_44 r125 u125 ⟨_, rfl, ?_⟩
  refine zw_putfieldS 35 f133_32 rfl g133_161_12 (zg_eq (zg_eq (mb_52 x))) rfl (zg_eq (zg_ne rfl rfl)) (by decide +kernel) ?_
  refine zw_lload 37 f133_35 rfl rfl ?_
  refine zw_lreturn f133_37 r133 u133 ⟨_, rfl, ?_⟩
  refine zw_lastore 8 114 f134_113 rfl (zg_ne rfl (zg_ne rfl (mb_76 x))) (by decide +kernel) (by decide +kernel) (by decide +kernel) ?_
  refine zw_aload_n 115 f134_114 rfl rfl ?_
  refine zw_getfield 118 f134_115 rfl g134_89_12 (zg_ne rfl (zg_eq (zg_eq (mb_52 x)))) (zg_ne rfl (zg_ne rfl rfl)) ?_
  refine zw_bipush 9 120 f134_118 rfl (by decide +kernel) ?_
  refine zw_aload_n 121 f134_120 rfl rfl ?_
  refine zw_aload_n 122 f134_121 rfl rfl ?_
  refine zw_getfield 125 f134_122 rfl g134_175_12 (zg_ne rfl (zg_eq (zg_eq (mb_52 x)))) (zg_ne rfl (zg_ne rfl rfl)) ?_
  refine zw_aload_n 126 f134_125 rfl rfl ?_
  refine zw_getfield 129 f134_126 rfl g134_127_12 (zg_ne rfl (zg_eq (zg_eq (mb_52 x)))) (zg_ne rfl (zg_ne rfl rfl)) ?_
  refine zw_i2l 0 130 f134_129 rfl (by decide +kernel) ?_
  refine zw_lload 132 f134_130 rfl rfl ?_
  refine zw_lload 134 f134_132 rfl rfl ?_
  refine zw_lload 136 f134_134 rfl rfl ?_
  refine zw_virtual_l 139 0 0 [.ref 52, .long 0, .long 0, .long a.toInt64, .long 1, .long 1] [(0, .ref 52), (1, .long 0), (3, .long 0), (5, .long a.toInt64), (7, .long 1), (9, .long 1)] f134_136 rfl n134_168 k134_168_12 rfl (zg_ne rfl (zg_eq (zg_eq (mb_52 x)))) (by decide +kernel) (Nat.le_of_ble_eq_true rfl) rfl rfl (by decide +kernel) (by decide +kernel) rfl (Nat.le_of_ble_eq_true rfl) rfl ?_
  refine zw_lload_n 1 f133_0 rfl rfl ?_
  refine zw_lload 3 f133_1 rfl rfl ?_
  refine zw_aload_n 4 f133_3 rfl rfl ?_
  refine zw_getfield 7 f133_4 rfl g133_40_12 (zg_ne rfl (zg_eq (zg_eq (mb_52 x)))) (zg_ne rfl (zg_ne rfl rfl)) ?_
  refine zw_ldiv 1 8 f133_7 rfl (by decide +kernel) (by decide +kernel) ?_
  refine zw_lmul 0 9 f133_8 rfl (by decide +kernel) ?_
  refine zw_lload_n 10 f133_9 rfl rfl ?_
  refine zw_lload 12 f133_10 rfl rfl ?_
  refine zw_lmul 0 13 f133_12 rfl (Int64.zero_mul) ?_
  refine zw_lload 15 f133_13 rfl rfl ?_
  refine zw_lload 17 f133_15 rfl rfl ?_
  refine zw_ldiv 1 18 f133_17 rfl (by decide +kernel) (by decide +kernel) ?_
  refine zw_lmul 0 19 f133_18 rfl (by decide +kernel) ?_
  refine zw_ladd 0 20 f133_19 rfl (by decide +kernel) ?_
  refine zw_lstore [(11, .long 0), (0, .ref 52), (1, .long 0), (3, .long 0), (5, .long a.toInt64), (7, .long 1), (9, .long 1)] 22 f133_20 rfl (by decide +kernel) rfl ?_
  refine zw_aload_n 23 f133_22 rfl rfl ?_
  refine zw_lload 25 f133_23 rfl rfl ?_
  refine zw_aload_n 26 f133_25 rfl rfl ?_
  refine zw_getfield 29 f133_26 rfl g133_161_12 (zg_ne rfl (zg_eq (zg_eq (mb_52 x)))) (zg_eq (zg_ne rfl rfl)) ?_
  refine zw_static_l 32 0 0 [.long 0, .long 1] [.ref 52] [(0, .long 0), (2, .long 1)] f133_29 rfl k133_164_99 rfl (by decide +kernel) (Nat.le_of_ble_eq_true rfl) (Nat.le_of_ble_eq_true rfl) rfl rfl (by decide +kernel) (by decide +kernel) rfl (Nat.le_of_ble_eq_true rfl) rfl ?_
  refine zw_lload_n 1 f125_0 rfl rfl ?_
  refine zw_lconst 0 2 f125_1 rfl (by decide +kernel) ?_
  refine zw_lcmp 0 3 f125_2 rfl (by decide +kernel) ?_
  refine zw_if_ge_t 11 f125_3 (by decide +kernel) (by decide +kernel) ?_
  refine zw_lload_n 12 f125_11 rfl rfl ?_
  refine zw_lstore [(4, .long 0), (0, .long 0), (2, .long 1)] 14 f125_12 rfl (by decide +kernel) rfl ?_
  refine zw_lload_n 15 f125_14 rfl rfl ?_
  refine zw_lstore [(6, .long 1), (4, .long 0), (0, .long 0), (2, .long 1)] 17 f125_15 rfl (by decide +kernel) rfl ?_
  refine zw_lload 19 f125_17 rfl rfl ?_
  refine zw_lconst 0 20 f125_19 rfl (by decide +kernel) ?_
  refine zw_lcmp 1 21 f125_20 rfl (by decide +kernel) ?_
  refine zw_if_eq_f 24 42 f125_21 (by decide +kernel) rfl (by decide +kernel) ?_
  refine zw_lload 26 f125_24 rfl rfl ?_
  refine zw_lload 28 f125_26 rfl rfl ?_
  refine zw_lrem 0 29 f125_28 rfl (by decide +kernel) (by decide +kernel) ?_
  refine zw_lstore [(8, .long 0), (6, .long 1), (4, .long 0), (0, .long 0), (2, .long 1)] 31 f125_29 rfl (by decide +kernel) rfl ?_
  refine zw_lload 33 f125_31 rfl rfl ?_
  refine zw_lstore [(4, .long 1), (8, .long 0), (6, .long 1), (0, .long 0), (2, .long 1)] 35 f125_33 rfl (by decide +kernel) rfl ?_
  refine zw_lload 37 f125_35 rfl rfl ?_
  refine zw_lstore [(6, .long 0), (4, .long 1), (8, .long 0), (0, .long 0), (2, .long 1)] 39 f125_37 rfl (by decide +kernel) rfl ?_
  refine zw_goto 17 f125_39 (by decide +kernel) ?_
  refine zw_lload 19 f125_17 rfl rfl ?_
  refine zw_lconst 0 20 f125_19 rfl (by decide +kernel) ?_
  refine zw_lcmp 0 21 f125_20 rfl (by decide +kernel) ?_
  refine zw_if_eq_t 42 f125_21 (by decide +kernel) (by decide +kernel) ?_
  refine zw_lload 44 f125_42 rfl rfl ?_
  refine zw_lreturn f125_44 r125 u125 ⟨_, rfl, ?_⟩
  refine zw_putfieldS 35 f133_32 rfl g133_161_12 (zg_ne rfl (zg_eq (zg_eq (mb_52 x)))) rfl (zg_eq (zg_ne rfl rfl)) (by decide +kernel) ?_
  refine zw_lload 37 f133_35 rfl rfl ?_
  refine zw_lreturn f133_37 r133 u133 ⟨_, rfl, ?_⟩
  refine zw_lastoreS 9 140 f134_139 rfl (zg_eq (zg_ne rfl (zg_ne rfl (mb_76 x)))) (by decide +kernel) (by decide +kernel) (by decide +kernel) rfl ?_
  refine zw_aload_n 141 f134_140 rfl rfl ?_
  refine zw_getfield 144 f134_141 rfl g134_89_12 (zg_ne rfl (zg_eq (zg_eq (mb_52 x)))) (zg_ne rfl (zg_ne rfl rfl)) ?_
  refine zw_bipush 10 146 f134_144 rfl (by decide +kernel) ?_
  refine zw_aload_n 147 f134_146 rfl rfl ?_
  refine zw_aload_n 148 f134_147 rfl rfl ?_
  refine zw_getfield 151 f134_148 rfl g134_178_12 (zg_ne rfl (zg_eq (zg_eq (mb_52 x)))) (zg_ne rfl (zg_ne rfl rfl)) ?_
  refine zw_aload_n 152 f134_151 rfl rfl ?_
  refine zw_getfield 155 f134_152 rfl g134_124_12 (zg_ne rfl (zg_eq (zg_eq (mb_52 x)))) (zg_ne rfl (zg_ne rfl rfl)) ?_
  refine zw_i2l 0 156 f134_155 rfl (by decide +kernel) ?_
  refine zw_lload 158 f134_156 rfl rfl ?_
  refine zw_lload 160 f134_158 rfl rfl ?_
  refine zw_lload 162 f134_160 rfl rfl ?_
  refine zw_virtual_l 165 0 0 [.ref 52, .long 0, .long 0, .long a.toInt64, .long 1, .long 1] [(0, .ref 52), (1, .long 0), (3, .long 0), (5, .long a.toInt64), (7, .long 1), (9, .long 1)] f134_162 rfl n134_168 k134_168_12 rfl (zg_ne rfl (zg_eq (zg_eq (mb_52 x)))) (by decide +kernel) (Nat.le_of_ble_eq_true rfl) rfl rfl (by decide +kernel) (by decide +kernel) rfl (Nat.le_of_ble_eq_true rfl) rfl ?_
  refine zw_lload_n 1 f133_0 rfl rfl ?_
  refine zw_lload 3 f133_1 rfl rfl ?_
  refine zw_aload_n 4 f133_3 rfl rfl ?_
  refine zw_getfield 7 f133_4 rfl g133_40_12 (zg_ne rfl (zg_eq (zg_eq (mb_52 x)))) (zg_ne rfl (zg_ne rfl rfl)) ?_
  refine zw_ldiv 1 8 f133_7 rfl (by decide +kernel) (by decide +kernel) ?_
  refine zw_lmul 0 9 f133_8 rfl (by decide +kernel) ?_
  refine zw_lload_n 10 f133_9 rfl rfl ?_
  refine zw_lload 12 f133_10 rfl rfl ?_
  refine zw_lmul 0 13 f133_12 rfl (Int64.zero_mul) ?_
  refine zw_lload 15 f133_13 rfl rfl ?_
  refine zw_lload 17 f133_15 rfl rfl ?_
  refine zw_ldiv 1 18 f133_17 rfl (by decide +kernel) (by decide +kernel) ?_
  refine zw_lmul 0 19 f133_18 rfl (by decide +kernel) ?_
  refine zw_ladd 0 20 f133_19 rfl (by decide +kernel) ?_
  refine zw_lstore [(11, .long 0), (0, .ref 52), (1, .long 0), (3, .long 0), (5, .long a.toInt64), (7, .long 1), (9, .long 1)] 22 f133_20 rfl (by decide +kernel) rfl ?_
  refine zw_aload_n 23 f133_22 rfl rfl ?_
  refine zw_lload 25 f133_23 rfl rfl ?_
  refine zw_aload_n 26 f133_25 rfl rfl ?_
  refine zw_getfield 29 f133_26 rfl g133_161_12 (zg_ne rfl (zg_eq (zg_eq (mb_52 x)))) (zg_eq (zg_ne rfl rfl)) ?_
  refine zw_static_l 32 0 0 [.long 0, .long 1] [.ref 52] [(0, .long 0), (2, .long 1)] f133_29 rfl k133_164_99 rfl (by decide +kernel) (Nat.le_of_ble_eq_true rfl) (Nat.le_of_ble_eq_true rfl) rfl rfl (by decide +kernel) (by decide +kernel) rfl (Nat.le_of_ble_eq_true rfl) rfl ?_
  refine zw_lload_n 1 f125_0 rfl rfl ?_
  refine zw_lconst 0 2 f125_1 rfl (by decide +kernel) ?_
  refine zw_lcmp 0 3 f125_2 rfl (by decide +kernel) ?_
  refine zw_if_ge_t 11 f125_3 (by decide +kernel) (by decide +kernel) ?_
  refine zw_lload_n 12 f125_11 rfl rfl ?_
  refine zw_lstore [(4, .long 0), (0, .long 0), (2, .long 1)] 14 f125_12 rfl (by decide +kernel) rfl ?_
  refine zw_lload_n 15 f125_14 rfl rfl ?_
  refine zw_lstore [(6, .long 1), (4, .long 0), (0, .long 0), (2, .long 1)] 17 f125_15 rfl (by decide +kernel) rfl ?_
  refine zw_lload 19 f125_17 rfl rfl ?_
  refine zw_lconst 0 20 f125_19 rfl (by decide +kernel) ?_
  refine zw_lcmp 1 21 f125_20 rfl (by decide +kernel) ?_
  refine zw_if_eq_f 24 42 f125_21 (by decide +kernel) rfl (by decide +kernel) ?_
  refine zw_lload 26 f125_24 rfl rfl ?_
  refine zw_lload 28 f125_26 rfl rfl ?_
  refine zw_lrem 0 29 f125_28 rfl (by decide +kernel) (by decide +kernel) ?_
  refine zw_lstore [(8, .long 0), (6, .long 1), (4, .long 0), (0, .long 0), (2, .long 1)] 31 f125_29 rfl (by decide +kernel) rfl ?_
  refine zw_lload 33 f125_31 rfl rfl ?_
  refine zw_lstore [(4, .long 1), (8, .long 0), (6, .long 1), (0, .long 0), (2, .long 1)] 35 f125_33 rfl (by decide +kernel) rfl ?_
  refine zw_lload 37 f125_35 rfl rfl ?_
  refine zw_lstore [(6, .long 0), (4, .long 1), (8, .long 0), (0, .long 0), (2, .long 1)] 39 f125_37 rfl (by decide +kernel) rfl ?_
  refine zw_goto 17 f125_39 (by decide +kernel) ?_
  refine zw_lload 19 f125_17 rfl rfl ?_
  refine zw_lconst 0 20 f125_19 rfl (by decide +kernel) ?_
  refine zw_lcmp 0 21 f125_20 rfl (by decide +kernel) ?_
  refine zw_if_eq_t 42 f125_21 (by decide +kernel) (by decide +kernel) ?_
  refine zw_lload 44 f125_42 rfl rfl ?_
  refine zw_lreturn f125_44 r125 u125 ⟨_, rfl, ?_⟩
  refine zw_putfieldS 35 f133_32 rfl g133_161_12 (zg_ne rfl (zg_eq (zg_eq (mb_52 x)))) rfl (zg_eq (zg_ne rfl rfl)) (by decide +kernel) ?_
  refine zw_lload 37 f133_35 rfl rfl ?_
  refine zw_lreturn f133_37 r133 u133 ⟨_, rfl, ?_⟩
  refine zw_lastoreS 10 166 f134_165 rfl (zg_eq (zg_ne rfl (zg_ne rfl (mb_76 x)))) (by decide +kernel) (by decide +kernel) (by decide +kernel) rfl ?_
  refine zw_lload 168 f134_166 rfl rfl ?_
  refine zw_aload_n 169 f134_168 rfl rfl ?_
  refine zw_getfield 172 f134_169 rfl g134_161_12 (zg_ne rfl (zg_eq (zg_eq (mb_52 x)))) (zg_eq (zg_ne rfl rfl)) ?_
  refine zw_ldiv 1 173 f134_172 rfl (by decide +kernel) (by decide +kernel) ?_
  refine zw_ldc2_w 10000 176 f134_173 rfl (by decide +kernel) ?_
  refine zw_lcmp (-1) 177 f134_176 rfl (by decide +kernel) ?_
  refine zw_if_le_t 182 f134_177 (by decide +kernel) (by decide +kernel) ?_
  refine zw_iconst 0 183 f134_182 rfl (by decide +kernel) ?_
  refine zw_istore [(13, .int 0), (11, .long 1), (9, .long 1), (7, .long a.toInt64), (5, .long 1), (0, .ref 52), (1, .long a.toInt64), (3, .long 1)] 185 f134_183 rfl (by decide +kernel) rfl ?_
  refine zw_iload 187 f134_185 rfl rfl ?_
  refine zw_bipush 8 189 f134_187 rfl (by decide +kernel) ?_
  refine zw_ic_ge_f 192 217 f134_189 (by decide +kernel) rfl (by decide +kernel) ?_
  refine zw_aload_n 193 f134_192 rfl rfl ?_
  refine zw_getfield 196 f134_193 rfl g134_44_12 (zg_ne rfl (zg_eq (zg_eq (mb_52 x)))) (zg_ne rfl (zg_ne rfl rfl)) ?_
  refine zw_iload 198 f134_196 rfl rfl ?_
  refine zw_aload_n 199 f134_198 rfl rfl ?_
  refine zw_getfield 202 f134_199 rfl g134_89_12 (zg_ne rfl (zg_eq (zg_eq (mb_52 x)))) (zg_ne rfl (zg_ne rfl rfl)) ?_
  refine zw_iload 204 f134_202 rfl rfl ?_
  refine zw_laload 0 0 205 f134_204 rfl (zg_eq (zg_ne rfl (zg_ne rfl (mb_76 x)))) (by decide +kernel) (by decide +kernel) (by decide +kernel) rfl ?_
  refine zw_aload_n 206 f134_205 rfl rfl ?_
  refine zw_getfield 209 f134_206 rfl g134_161_12 (zg_ne rfl (zg_eq (zg_eq (mb_52 x)))) (zg_eq (zg_ne rfl rfl)) ?_
  refine zw_ldiv 0 210 f134_209 rfl (by decide +kernel) (by decide +kernel) ?_
  refine zw_lastoreS 0 211 f134_210 rfl (zg_ne rfl (zg_ne rfl (zg_ne rfl (mb_63 x)))) (by decide +kernel) (by decide +kernel) (by decide +kernel) rfl ?_
  refine zw_iinc 1 [(13, .int 1), (11, .long 1), (9, .long 1), (7, .long a.toInt64), (5, .long 1), (0, .ref 52), (1, .long a.toInt64), (3, .long 1)] 214 f134_211 rfl rfl (by decide +kernel) (by decide +kernel) rfl ?_
  refine zw_goto 185 f134_214 (by decide +kernel) ?_
  refine zw_iload 187 f134_185 rfl rfl ?_
  refine zw_bipush 8 189 f134_187 rfl (by decide +kernel) ?_
  refine zw_ic_ge_f 192 217 f134_189 (by decide +kernel) rfl (by decide +kernel) ?_
  refine zw_aload_n 193 f134_192 rfl rfl ?_
  refine zw_getfield 196 f134_193 rfl g134_44_12 (zg_ne rfl (zg_eq (zg_eq (mb_52 x)))) (zg_ne rfl (zg_ne rfl rfl)) ?_
  refine zw_iload 198 f134_196 rfl rfl ?_
  refine zw_aload_n 199 f134_198 rfl rfl ?_
  refine zw_getfield 202 f134_199 rfl g134_89_12 (zg_ne rfl (zg_eq (zg_eq (mb_52 x)))) (zg_ne rfl (zg_ne rfl rfl)) ?_
  refine zw_iload 204 f134_202 rfl rfl ?_
  refine zw_laload 1 0 205 f134_204 rfl (zg_eq (zg_ne rfl (zg_ne rfl (mb_76 x)))) (by decide +kernel) (by decide +kernel) (by decide +kernel) rfl ?_
  refine zw_aload_n 206 f134_205 rfl rfl ?_
  refine zw_getfield 209 f134_206 rfl g134_161_12 (zg_ne rfl (zg_eq (zg_eq (mb_52 x)))) (zg_eq (zg_ne rfl rfl)) ?_
  refine zw_ldiv 0 210 f134_209 rfl (by decide +kernel) (by decide +kernel) ?_
  refine zw_lastoreS 1 211 f134_210 rfl (zg_ne rfl (zg_ne rfl (zg_ne rfl (mb_63 x)))) (by decide +kernel) (by decide +kernel) (by decide +kernel) rfl ?_
  refine zw_iinc 2 [(13, .int 2), (11, .long 1), (9, .long 1), (7, .long a.toInt64), (5, .long 1), (0, .ref 52), (1, .long a.toInt64), (3, .long 1)] 214 f134_211 rfl rfl (by decide +kernel) (by decide +kernel) rfl ?_
  refine zw_goto 185 f134_214 (by decide +kernel) ?_
  refine zw_iload 187 f134_185 rfl rfl ?_
  refine zw_bipush 8 189 f134_187 rfl (by decide +kernel) ?_
  refine zw_ic_ge_f 192 217 f134_189 (by decide +kernel) rfl (by decide +kernel) ?_
  refine zw_aload_n 193 f134_192 rfl rfl ?_
  refine zw_getfield 196 f134_193 rfl g134_44_12 (zg_ne rfl (zg_eq (zg_eq (mb_52 x)))) (zg_ne rfl (zg_ne rfl rfl)) ?_
  refine zw_iload 198 f134_196 rfl rfl ?_
  refine zw_aload_n 199 f134_198 rfl rfl ?_
  refine zw_getfield 202 f134_199 rfl g134_89_12 (zg_ne rfl (zg_eq (zg_eq (mb_52 x)))) (zg_ne rfl (zg_ne rfl rfl)) ?_
  refine zw_iload 204 f134_202 rfl rfl ?_
  refine zw_laload 2 0 205 f134_204 rfl (zg_eq (zg_ne rfl (zg_ne rfl (mb_76 x)))) (by decide +kernel) (by decide +kernel) (by decide +kernel) rfl ?_
  refine zw_aload_n 206 f134_205 rfl rfl ?_
  refine zw_getfield 209 f134_206 rfl g134_161_12 (zg_ne rfl (zg_eq (zg_eq (mb_52 x)))) (zg_eq (zg_ne rfl rfl)) ?_
  refine zw_ldiv 0 210 f134_209 rfl (by decide +kernel) (by decide +kernel) ?_
  refine zw_lastoreS 2 211 f134_210 rfl (zg_ne rfl (zg_ne rfl (zg_ne rfl (mb_63 x)))) (by decide +kernel) (by decide +kernel) (by decide +kernel) rfl ?_
  refine zw_iinc 3 [(13, .int 3), (11, .long 1), (9, .long 1), (7, .long a.toInt64), (5, .long 1), (0, .ref 52), (1, .long a.toInt64), (3, .long 1)] 214 f134_211 rfl rfl (by decide +kernel) (by decide +kernel) rfl ?_
  refine zw_goto 185 f134_214 (by decide +kernel) ?_
  refine zw_iload 187 f134_185 rfl rfl ?_
  refine zw_bipush 8 189 f134_187 rfl (by decide +kernel) ?_
  refine zw_ic_ge_f 192 217 f134_189 (by decide +kernel) rfl (by decide +kernel) ?_
  refine zw_aload_n 193 f134_192 rfl rfl ?_
  refine zw_getfield 196 f134_193 rfl g134_44_12 (zg_ne rfl (zg_eq (zg_eq (mb_52 x)))) (zg_ne rfl (zg_ne rfl rfl)) ?_
  refine zw_iload 198 f134_196 rfl rfl ?_
  refine zw_aload_n 199 f134_198 rfl rfl ?_
  refine zw_getfield 202 f134_199 rfl g134_89_12 (zg_ne rfl (zg_eq (zg_eq (mb_52 x)))) (zg_ne rfl (zg_ne rfl rfl)) ?_
  refine zw_iload 204 f134_202 rfl rfl ?_
  refine zw_laload 3 0 205 f134_204 rfl (zg_eq (zg_ne rfl (zg_ne rfl (mb_76 x)))) (by decide +kernel) (by decide +kernel) (by decide +kernel) rfl ?_
  refine zw_aload_n 206 f134_205 rfl rfl ?_
  refine zw_getfield 209 f134_206 rfl g134_161_12 (zg_ne rfl (zg_eq (zg_eq (mb_52 x)))) (zg_eq (zg_ne rfl rfl)) ?_
  refine zw_ldiv 0 210 f134_209 rfl (by decide +kernel) (by decide +kernel) ?_
  refine zw_lastoreS 3 211 f134_210 rfl (zg_ne rfl (zg_ne rfl (zg_ne rfl (mb_63 x)))) (by decide +kernel) (by decide +kernel) (by decide +kernel) rfl ?_
  refine zw_iinc 4 [(13, .int 4), (11, .long 1), (9, .long 1), (7, .long a.toInt64), (5, .long 1), (0, .ref 52), (1, .long a.toInt64), (3, .long 1)] 214 f134_211 rfl rfl (by decide +kernel) (by decide +kernel) rfl ?_
  refine zw_goto 185 f134_214 (by decide +kernel) ?_
  refine zw_iload 187 f134_185 rfl rfl ?_
  refine zw_bipush 8 189 f134_187 rfl (by decide +kernel) ?_
  refine zw_ic_ge_f 192 217 f134_189 (by decide +kernel) rfl (by decide +kernel) ?_
  refine zw_aload_n 193 f134_192 rfl rfl ?_
  refine zw_getfield 196 f134_193 rfl g134_44_12 (zg_ne rfl (zg_eq (zg_eq (mb_52 x)))) (zg_ne rfl (zg_ne rfl rfl)) ?_
  refine zw_iload 198 f134_196 rfl rfl ?_
  refine zw_aload_n 199 f134_198 rfl rfl ?_
  refine zw_getfield 202 f134_199 rfl g134_89_12 (zg_ne rfl (zg_eq (zg_eq (mb_52 x)))) (zg_ne rfl (zg_ne rfl rfl)) ?_
  refine zw_iload 204 f134_202 rfl rfl ?_
  refine zw_laload 4 0 205 f134_204 rfl (zg_eq (zg_ne rfl (zg_ne rfl (mb_76 x)))) (by decide +kernel) (by decide +kernel) (by decide +kernel) rfl ?_
  refine zw_aload_n 206 f134_205 rfl rfl ?_
  refine zw_getfield 209 f134_206 rfl g134_161_12 (zg_ne rfl (zg_eq (zg_eq (mb_52 x)))) (zg_eq (zg_ne rfl rfl)) ?_
  refine zw_ldiv 0 210 f134_209 rfl (by decide +kernel) (by decide +kernel) ?_
  refine zw_lastoreS 4 211 f134_210 rfl (zg_ne rfl (zg_ne rfl (zg_ne rfl (mb_63 x)))) (by decide +kernel) (by decide +kernel) (by decide +kernel) rfl ?_
  refine zw_iinc 5 [(13, .int 5), (11, .long 1), (9, .long 1), (7, .long a.toInt64), (5, .long 1), (0, .ref 52), (1, .long a.toInt64), (3, .long 1)] 214 f134_211 rfl rfl (by decide +kernel) (by decide +kernel) rfl ?_
  refine zw_goto 185 f134_214 (by decide +kernel) ?_
  refine zw_iload 187 f134_185 rfl rfl ?_
  refine zw_bipush 8 189 f134_187 rfl (by decide +kernel) ?_
  refine zw_ic_ge_f 192 217 f134_189 (by decide +kernel) rfl (by decide +kernel) ?_
  refine zw_aload_n 193 f134_192 rfl rfl ?_
  refine zw_getfield 196 f134_193 rfl g134_44_12 (zg_ne rfl (zg_eq (zg_eq (mb_52 x)))) (zg_ne rfl (zg_ne rfl rfl)) ?_
  refine zw_iload 198 f134_196 rfl rfl ?_
  refine zw_aload_n 199 f134_198 rfl rfl ?_
  refine zw_getfield 202 f134_199 rfl g134_89_12 (zg_ne rfl (zg_eq (zg_eq (mb_52 x)))) (zg_ne rfl (zg_ne rfl rfl)) ?_
  refine zw_iload 204 f134_202 rfl rfl ?_
  refine zw_laload 5 0 205 f134_204 rfl (zg_eq (zg_ne rfl (zg_ne rfl (mb_76 x)))) (by decide +kernel) (by decide +kernel) (by decide +kernel) rfl ?_
  refine zw_aload_n 206 f134_205 rfl rfl ?_
  refine zw_getfield 209 f134_206 rfl g134_161_12 (zg_ne rfl (zg_eq (zg_eq (mb_52 x)))) (zg_eq (zg_ne rfl rfl)) ?_
  refine zw_ldiv 0 210 f134_209 rfl (by decide +kernel) (by decide +kernel) ?_
  refine zw_lastoreS 5 211 f134_210 rfl (zg_ne rfl (zg_ne rfl (zg_ne rfl (mb_63 x)))) (by decide +kernel) (by decide +kernel) (by decide +kernel) rfl ?_
  refine zw_iinc 6 [(13, .int 6), (11, .long 1), (9, .long 1), (7, .long a.toInt64), (5, .long 1), (0, .ref 52), (1, .long a.toInt64), (3, .long 1)] 214 f134_211 rfl rfl (by decide +kernel) (by decide +kernel) rfl ?_
  refine zw_goto 185 f134_214 (by decide +kernel) ?_
  refine zw_iload 187 f134_185 rfl rfl ?_
  refine zw_bipush 8 189 f134_187 rfl (by decide +kernel) ?_
  refine zw_ic_ge_f 192 217 f134_189 (by decide +kernel) rfl (by decide +kernel) ?_
  refine zw_aload_n 193 f134_192 rfl rfl ?_
  refine zw_getfield 196 f134_193 rfl g134_44_12 (zg_ne rfl (zg_eq (zg_eq (mb_52 x)))) (zg_ne rfl (zg_ne rfl rfl)) ?_
  refine zw_iload 198 f134_196 rfl rfl ?_
  refine zw_aload_n 199 f134_198 rfl rfl ?_
  refine zw_getfield 202 f134_199 rfl g134_89_12 (zg_ne rfl (zg_eq (zg_eq (mb_52 x)))) (zg_ne rfl (zg_ne rfl rfl)) ?_
  refine zw_iload 204 f134_202 rfl rfl ?_
  refine zw_laload 6 0 205 f134_204 rfl (zg_eq (zg_ne rfl (zg_ne rfl (mb_76 x)))) (by decide +kernel) (by decide +kernel) (by decide +kernel) rfl ?_
  refine zw_aload_n 206 f134_205 rfl rfl ?_
  refine zw_getfield 209 f134_206 rfl g134_161_12 (zg_ne rfl (zg_eq (zg_eq (mb_52 x)))) (zg_eq (zg_ne rfl rfl)) ?_
  refine zw_ldiv 0 210 f134_209 rfl (by decide +kernel) (by decide +kernel) ?_
  refine zw_lastoreS 6 211 f134_210 rfl (zg_ne rfl (zg_ne rfl (zg_ne rfl (mb_63 x)))) (by decide +kernel) (by decide +kernel) (by decide +kernel) rfl ?_
  refine zw_iinc 7 [(13, .int 7), (11, .long 1), (9, .long 1), (7, .long a.toInt64), (5, .long 1), (0, .ref 52), (1, .long a.toInt64), (3, .long 1)] 214 f134_211 rfl rfl (by decide +kernel) (by decide +kernel) rfl ?_
  refine zw_goto 185 f134_214 (by decide +kernel) ?_
  refine zw_iload 187 f134_185 rfl rfl ?_
  refine zw_bipush 8 189 f134_187 rfl (by decide +kernel) ?_
  refine zw_ic_ge_f 192 217 f134_189 (by decide +kernel) rfl (by decide +kernel) ?_
  refine zw_aload_n 193 f134_192 rfl rfl ?_
  refine zw_getfield 196 f134_193 rfl g134_44_12 (zg_ne rfl (zg_eq (zg_eq (mb_52 x)))) (zg_ne rfl (zg_ne rfl rfl)) ?_
  refine zw_iload 198 f134_196 rfl rfl ?_
  refine zw_aload_n 199 f134_198 rfl rfl ?_
  refine zw_getfield 202 f134_199 rfl g134_89_12 (zg_ne rfl (zg_eq (zg_eq (mb_52 x)))) (zg_ne rfl (zg_ne rfl rfl)) ?_
  refine zw_iload 204 f134_202 rfl rfl ?_
  refine zw_laload 7 0 205 f134_204 rfl (zg_eq (zg_ne rfl (zg_ne rfl (mb_76 x)))) (by decide +kernel) (by decide +kernel) (by decide +kernel) rfl ?_
  refine zw_aload_n 206 f134_205 rfl rfl ?_
  refine zw_getfield 209 f134_206 rfl g134_161_12 (zg_ne rfl (zg_eq (zg_eq (mb_52 x)))) (zg_eq (zg_ne rfl rfl)) ?_
  refine zw_ldiv 0 210 f134_209 rfl (by decide +kernel) (by decide +kernel) ?_
  refine zw_lastoreS 7 211 f134_210 rfl (zg_ne rfl (zg_ne rfl (zg_ne rfl (mb_63 x)))) (by decide +kernel) (by decide +kernel) (by decide +kernel) rfl ?_
  refine zw_iinc 8 [(13, .int 8), (11, .long 1), (9, .long 1), (7, .long a.toInt64), (5, .long 1), (0, .ref 52), (1, .long a.toInt64), (3, .long 1)] 214 f134_211 rfl rfl (by decide +kernel) (by decide +kernel) rfl ?_
  refine zw_goto 185 f134_214 (by decide +kernel) ?_
  refine zw_iload 187 f134_185 rfl rfl ?_
  refine zw_bipush 8 189 f134_187 rfl (by decide +kernel) ?_
  refine zw_ic_ge_t 217 f134_189 (by decide +kernel) (by decide +kernel) ?_
  refine zw_aload_n 218 f134_217 rfl rfl ?_
  refine zw_aload_n 219 f134_218 rfl rfl ?_
  refine zw_getfield 222 f134_219 rfl g134_89_12 (zg_ne rfl (zg_eq (zg_eq (mb_52 x)))) (zg_ne rfl (zg_ne rfl rfl)) ?_
  refine zw_bipush 8 224 f134_222 rfl (by decide +kernel) ?_
  refine zw_laload 8 a.toInt64 225 f134_224 rfl (zg_eq (zg_ne rfl (zg_ne rfl (mb_76 x)))) (by decide +kernel) (by decide +kernel) (by decide +kernel) rfl ?_
  refine zw_aload_n 226 f134_225 rfl rfl ?_
  refine zw_getfield 229 f134_226 rfl g134_161_12 (zg_ne rfl (zg_eq (zg_eq (mb_52 x)))) (zg_eq (zg_ne rfl rfl)) ?_
  refine zw_ldiv a.toInt64 230 f134_229 rfl (by decide +kernel) (zl_div1 _) ?_
  refine zw_putfield 233 f134_230 rfl g134_172_12 (zg_ne rfl (zg_eq (zg_eq (mb_52 x)))) rfl (zg_lt (zg_ne rfl (zg_ne rfl rfl))) (by decide +kernel) ?_
  refine zw_aload_n 234 f134_233 rfl rfl ?_
  refine zw_aload_n 235 f134_234 rfl rfl ?_
  refine zw_getfield 238 f134_235 rfl g134_89_12 (zg_eq (zg_ne rfl (zg_eq (zg_eq (mb_52 x))))) (zg_ne rfl (zg_ne rfl (zg_ne rfl rfl))) ?_
  refine zw_bipush 9 240 f134_238 rfl (by decide +kernel) ?_
  refine zw_laload 9 0 241 f134_240 rfl (zg_ne rfl (zg_eq (zg_ne rfl (zg_ne rfl (mb_76 x))))) (by decide +kernel) (by decide +kernel) (by decide +kernel) rfl ?_
  refine zw_aload_n 242 f134_241 rfl rfl ?_
  refine zw_getfield 245 f134_242 rfl g134_161_12 (zg_eq (zg_ne rfl (zg_eq (zg_eq (mb_52 x))))) (zg_ne rfl (zg_eq (zg_ne rfl rfl))) ?_
  refine zw_ldiv 0 246 f134_245 rfl (by decide +kernel) (by decide +kernel) ?_
  refine zw_putfieldS 249 f134_246 rfl g134_175_12 (zg_eq (zg_ne rfl (zg_eq (zg_eq (mb_52 x))))) rfl (zg_ne rfl (zg_ne rfl (zg_ne rfl rfl))) (by decide +kernel) ?_
  refine zw_aload_n 250 f134_249 rfl rfl ?_
  refine zw_aload_n 251 f134_250 rfl rfl ?_
  refine zw_getfield 254 f134_251 rfl g134_89_12 (zg_eq (zg_ne rfl (zg_eq (zg_eq (mb_52 x))))) (zg_ne rfl (zg_ne rfl (zg_ne rfl rfl))) ?_
  refine zw_bipush 10 256 f134_254 rfl (by decide +kernel) ?_
  refine zw_laload 10 0 257 f134_256 rfl (zg_ne rfl (zg_eq (zg_ne rfl (zg_ne rfl (mb_76 x))))) (by decide +kernel) (by decide +kernel) (by decide +kernel) rfl ?_
  refine zw_aload_n 258 f134_257 rfl rfl ?_
  refine zw_getfield 261 f134_258 rfl g134_161_12 (zg_eq (zg_ne rfl (zg_eq (zg_eq (mb_52 x))))) (zg_ne rfl (zg_eq (zg_ne rfl rfl))) ?_
  refine zw_ldiv 0 262 f134_261 rfl (by decide +kernel) (by decide +kernel) ?_
  refine zw_putfieldS 265 f134_262 rfl g134_178_12 (zg_eq (zg_ne rfl (zg_eq (zg_eq (mb_52 x))))) rfl (zg_ne rfl (zg_ne rfl (zg_ne rfl rfl))) (by decide +kernel) ?_
  refine zw_aload_n 266 f134_265 rfl rfl ?_
  refine zw_lload 268 f134_266 rfl rfl ?_
  refine zw_aload_n 269 f134_268 rfl rfl ?_
  refine zw_getfield 272 f134_269 rfl g134_161_12 (zg_eq (zg_ne rfl (zg_eq (zg_eq (mb_52 x))))) (zg_ne rfl (zg_eq (zg_ne rfl rfl))) ?_
  refine zw_ldiv 1 273 f134_272 rfl (by decide +kernel) (by decide +kernel) ?_
  refine zw_putfieldS 276 f134_273 rfl g134_40_12 (zg_eq (zg_ne rfl (zg_eq (zg_eq (mb_52 x))))) rfl (zg_ne rfl (zg_ne rfl (zg_ne rfl rfl))) (by decide +kernel) ?_
  refine zw_iconst 1 277 f134_276 rfl (by decide +kernel) ?_
  refine zw_zreturn f134_277 r134 u134 (by decide +kernel) ⟨_, rfl, ?_⟩
  refine zw_pop 174 f152_173 rfl rfl ?_
  refine zw_aload_n 175 f152_174 rfl rfl ?_
  refine zw_aload_n 176 f152_175 rfl rfl ?_
  refine zw_getfield 179 f152_176 rfl g152_183_12 (zg_eq (zg_ne rfl (zg_eq (zg_eq (mb_52 x))))) (zg_ne rfl (zg_ne rfl (zg_ne rfl rfl))) ?_
  refine zw_iload_n 180 f152_179 rfl rfl ?_
  refine zw_isub 0 181 f152_180 rfl (by decide +kernel) ?_
  refine zw_virtual_i 184 0 0 [.ref 52, .int 0] [(0, .ref 52), (1, .int 0)] f152_181 rfl n152_205 k152_205_12 rfl (zg_eq (zg_ne rfl (zg_eq (zg_eq (mb_52 x))))) (by decide +kernel) (Nat.le_of_ble_eq_true rfl) rfl rfl (by decide +kernel) (by decide +kernel) rfl (Nat.le_of_ble_eq_true rfl) rfl ?_
  refine zw_aload_n 1 f122_0 rfl rfl ?_
  refine zw_iconst 0 2 f122_1 rfl (by decide +kernel) ?_
  refine zw_putfieldS 5 f122_2 rfl g122_111_12 (zg_eq (zg_ne rfl (zg_eq (zg_eq (mb_52 x))))) rfl (zg_ne rfl (zg_ne rfl (zg_ne rfl rfl))) (by decide +kernel) ?_
  refine zw_iload_n 6 f122_5 rfl rfl ?_
  refine zw_ireturn f122_6 r122 u122 ⟨_, rfl, ?_⟩
  refine zw_ireturn f152_184 r152 u152 ?_
  exact rfl
set_option maxRecDepth 100000 in
set_option maxHeartbeats 0 in
theorem m_now_k0 (ro : UInt32 → Nat × (Nat → Int32)) (x : Nat → va_E) : zWp ro 154 0 [(0, .ref 52), (1, .int 0)] [] (hMx x) 0 0 (fun r _ => r = some (.int 0)) := by
  refine zw_iload_n 1 f154_0 rfl rfl ?_
  refine zw_if_eq_t 9 f154_1 (by decide +kernel) (by decide +kernel) ?_
  refine zw_aload_n 10 f154_9 rfl rfl ?_
  refine zw_getfield 13 f154_10 rfl g154_172_12 (mb_52 x) rfl ?_
  refine zw_aload_n 14 f154_13 rfl rfl ?_
  refine zw_getfield 17 f154_14 rfl g154_40_12 (mb_52 x) rfl ?_
  refine zw_iload_n 18 f154_17 rfl rfl ?_
  refine zw_static_l 21 0 0 [.long 0, .long 1, .int 0] [] [(0, .long 0), (2, .long 1), (4, .int 0)] f154_18 rfl k154_239_99 rfl (by decide +kernel) (Nat.le_of_ble_eq_true rfl) (Nat.le_of_ble_eq_true rfl) rfl rfl (by decide +kernel) (by decide +kernel) rfl (Nat.le_of_ble_eq_true rfl) rfl ?_
  refine zw_lload_n 1 f153_0 rfl rfl ?_
  refine zw_lload_n 2 f153_1 rfl rfl ?_
  refine zw_static_l 5 0 0 [.long 0, .long 1] [] [(0, .long 0), (2, .long 1)] f153_2 rfl k153_164_99 rfl (by decide +kernel) (Nat.le_of_ble_eq_true rfl) (Nat.le_of_ble_eq_true rfl) rfl rfl (by decide +kernel) (by decide +kernel) rfl (Nat.le_of_ble_eq_true rfl) rfl ?_
  refine zw_lload_n 1 f125_0 rfl rfl ?_
  refine zw_lconst 0 2 f125_1 rfl (by decide +kernel) ?_
  refine zw_lcmp 0 3 f125_2 rfl (by decide +kernel) ?_
  refine zw_if_ge_t 11 f125_3 (by decide +kernel) (by decide +kernel) ?_
  refine zw_lload_n 12 f125_11 rfl rfl ?_
  refine zw_lstore [(4, .long 0), (0, .long 0), (2, .long 1)] 14 f125_12 rfl (by decide +kernel) rfl ?_
  refine zw_lload_n 15 f125_14 rfl rfl ?_
  refine zw_lstore [(6, .long 1), (4, .long 0), (0, .long 0), (2, .long 1)] 17 f125_15 rfl (by decide +kernel) rfl ?_
  refine zw_lload 19 f125_17 rfl rfl ?_
  refine zw_lconst 0 20 f125_19 rfl (by decide +kernel) ?_
  refine zw_lcmp 1 21 f125_20 rfl (by decide +kernel) ?_
  refine zw_if_eq_f 24 42 f125_21 (by decide +kernel) rfl (by decide +kernel) ?_
  refine zw_lload 26 f125_24 rfl rfl ?_
  refine zw_lload 28 f125_26 rfl rfl ?_
  refine zw_lrem 0 29 f125_28 rfl (by decide +kernel) (by decide +kernel) ?_
  refine zw_lstore [(8, .long 0), (6, .long 1), (4, .long 0), (0, .long 0), (2, .long 1)] 31 f125_29 rfl (by decide +kernel) rfl ?_
  refine zw_lload 33 f125_31 rfl rfl ?_
  refine zw_lstore [(4, .long 1), (8, .long 0), (6, .long 1), (0, .long 0), (2, .long 1)] 35 f125_33 rfl (by decide +kernel) rfl ?_
  refine zw_lload 37 f125_35 rfl rfl ?_
  refine zw_lstore [(6, .long 0), (4, .long 1), (8, .long 0), (0, .long 0), (2, .long 1)] 39 f125_37 rfl (by decide +kernel) rfl ?_
  refine zw_goto 17 f125_39 (by decide +kernel) ?_
  refine zw_lload 19 f125_17 rfl rfl ?_
  refine zw_lconst 0 20 f125_19 rfl (by decide +kernel) ?_
  refine zw_lcmp 0 21 f125_20 rfl (by decide +kernel) ?_
  refine zw_if_eq_t 42 f125_21 (by decide +kernel) (by decide +kernel) ?_
  refine zw_lload 44 f125_42 rfl rfl ?_
  refine zw_lreturn f125_44 r125 u125 ⟨_, rfl, ?_⟩
  refine zw_lstore [(5, .long 1), (0, .long 0), (2, .long 1), (4, .int 0)] 7 f153_5 rfl (by decide +kernel) rfl ?_
  refine zw_iload 9 f153_7 rfl rfl ?_
  refine zw_if_ne_f 12 19 f153_9 (by decide +kernel) rfl (by decide +kernel) ?_
  refine zw_lload_n 13 f153_12 rfl rfl ?_
  refine zw_lload 15 f153_13 rfl rfl ?_
  refine zw_ldiv 0 16 f153_15 rfl (by decide +kernel) (by decide +kernel) ?_
  refine zw_goto 23 f153_16 (by decide +kernel) ?_
  refine zw_lreturn f153_23 r153 u153 ⟨_, rfl, ?_⟩
  refine zw_l2i 0 22 f154_21 rfl (by decide +kernel) ?_
  refine zw_goto 39 f154_22 (by decide +kernel) ?_
  refine zw_ireturn f154_39 r154 u154 ?_
  exact rfl
set_option maxRecDepth 100000 in
set_option maxHeartbeats 0 in
theorem m_now_k1 (ro : UInt32 → Nat × (Nat → Int32)) (x : Nat → va_E) : zWp ro 154 0 [(0, .ref 52), (1, .int 1)] [] (hMx x) 0 0 (fun r _ => r = some (.int 1)) := by
  refine zw_iload_n 1 f154_0 rfl rfl ?_
  refine zw_if_eq_f 4 9 f154_1 (by decide +kernel) rfl (by decide +kernel) ?_
  refine zw_iload_n 5 f154_4 rfl rfl ?_
  refine zw_iconst 1 6 f154_5 rfl (by decide +kernel) ?_
  refine zw_ic_ne_f 9 25 f154_6 (by decide +kernel) rfl (by decide +kernel) ?_
  refine zw_aload_n 10 f154_9 rfl rfl ?_
  refine zw_getfield 13 f154_10 rfl g154_172_12 (mb_52 x) rfl ?_
  refine zw_aload_n 14 f154_13 rfl rfl ?_
  refine zw_getfield 17 f154_14 rfl g154_40_12 (mb_52 x) rfl ?_
  refine zw_iload_n 18 f154_17 rfl rfl ?_
  refine zw_static_l 21 0 0 [.long 0, .long 1, .int 1] [] [(0, .long 0), (2, .long 1), (4, .int 1)] f154_18 rfl k154_239_99 rfl (by decide +kernel) (Nat.le_of_ble_eq_true rfl) (Nat.le_of_ble_eq_true rfl) rfl rfl (by decide +kernel) (by decide +kernel) rfl (Nat.le_of_ble_eq_true rfl) rfl ?_
  refine zw_lload_n 1 f153_0 rfl rfl ?_
  refine zw_lload_n 2 f153_1 rfl rfl ?_
  refine zw_static_l 5 0 0 [.long 0, .long 1] [] [(0, .long 0), (2, .long 1)] f153_2 rfl k153_164_99 rfl (by decide +kernel) (Nat.le_of_ble_eq_true rfl) (Nat.le_of_ble_eq_true rfl) rfl rfl (by decide +kernel) (by decide +kernel) rfl (Nat.le_of_ble_eq_true rfl) rfl ?_
  refine zw_lload_n 1 f125_0 rfl rfl ?_
  refine zw_lconst 0 2 f125_1 rfl (by decide +kernel) ?_
  refine zw_lcmp 0 3 f125_2 rfl (by decide +kernel) ?_
  refine zw_if_ge_t 11 f125_3 (by decide +kernel) (by decide +kernel) ?_
  refine zw_lload_n 12 f125_11 rfl rfl ?_
  refine zw_lstore [(4, .long 0), (0, .long 0), (2, .long 1)] 14 f125_12 rfl (by decide +kernel) rfl ?_
  refine zw_lload_n 15 f125_14 rfl rfl ?_
  refine zw_lstore [(6, .long 1), (4, .long 0), (0, .long 0), (2, .long 1)] 17 f125_15 rfl (by decide +kernel) rfl ?_
  refine zw_lload 19 f125_17 rfl rfl ?_
  refine zw_lconst 0 20 f125_19 rfl (by decide +kernel) ?_
  refine zw_lcmp 1 21 f125_20 rfl (by decide +kernel) ?_
  refine zw_if_eq_f 24 42 f125_21 (by decide +kernel) rfl (by decide +kernel) ?_
  refine zw_lload 26 f125_24 rfl rfl ?_
  refine zw_lload 28 f125_26 rfl rfl ?_
  refine zw_lrem 0 29 f125_28 rfl (by decide +kernel) (by decide +kernel) ?_
  refine zw_lstore [(8, .long 0), (6, .long 1), (4, .long 0), (0, .long 0), (2, .long 1)] 31 f125_29 rfl (by decide +kernel) rfl ?_
  refine zw_lload 33 f125_31 rfl rfl ?_
  refine zw_lstore [(4, .long 1), (8, .long 0), (6, .long 1), (0, .long 0), (2, .long 1)] 35 f125_33 rfl (by decide +kernel) rfl ?_
  refine zw_lload 37 f125_35 rfl rfl ?_
  refine zw_lstore [(6, .long 0), (4, .long 1), (8, .long 0), (0, .long 0), (2, .long 1)] 39 f125_37 rfl (by decide +kernel) rfl ?_
  refine zw_goto 17 f125_39 (by decide +kernel) ?_
  refine zw_lload 19 f125_17 rfl rfl ?_
  refine zw_lconst 0 20 f125_19 rfl (by decide +kernel) ?_
  refine zw_lcmp 0 21 f125_20 rfl (by decide +kernel) ?_
  refine zw_if_eq_t 42 f125_21 (by decide +kernel) (by decide +kernel) ?_
  refine zw_lload 44 f125_42 rfl rfl ?_
  refine zw_lreturn f125_44 r125 u125 ⟨_, rfl, ?_⟩
  refine zw_lstore [(5, .long 1), (0, .long 0), (2, .long 1), (4, .int 1)] 7 f153_5 rfl (by decide +kernel) rfl ?_
  refine zw_iload 9 f153_7 rfl rfl ?_
  refine zw_if_ne_t 19 f153_9 (by decide +kernel) (by decide +kernel) ?_
  refine zw_lload_n 20 f153_19 rfl rfl ?_
  refine zw_lload 22 f153_20 rfl rfl ?_
  refine zw_ldiv 1 23 f153_22 rfl (by decide +kernel) (by decide +kernel) ?_
  refine zw_lreturn f153_23 r153 u153 ⟨_, rfl, ?_⟩
  refine zw_l2i 1 22 f154_21 rfl (by decide +kernel) ?_
  refine zw_goto 39 f154_22 (by decide +kernel) ?_
  refine zw_ireturn f154_39 r154 u154 ?_
  exact rfl
set_option maxRecDepth 100000 in
set_option maxHeartbeats 0 in
theorem m_now_k2 (ro : UInt32 → Nat × (Nat → Int32)) (x : Nat → va_E) : zWp ro 154 0 [(0, .ref 52), (1, .int 2)] [] (hMx x) 0 0 (fun r _ => r = some (.int 1)) := by
  refine zw_iload_n 1 f154_0 rfl rfl ?_
  refine zw_if_eq_f 4 9 f154_1 (by decide +kernel) rfl (by decide +kernel) ?_
  refine zw_iload_n 5 f154_4 rfl rfl ?_
  refine zw_iconst 1 6 f154_5 rfl (by decide +kernel) ?_
  refine zw_ic_ne_t 25 f154_6 (by decide +kernel) (by decide +kernel) ?_
  refine zw_iload_n 26 f154_25 rfl rfl ?_
  refine zw_iconst 2 27 f154_26 rfl (by decide +kernel) ?_
  refine zw_ic_ne_f 30 38 f154_27 (by decide +kernel) rfl (by decide +kernel) ?_
  refine zw_aload_n 31 f154_30 rfl rfl ?_
  refine zw_getfield 34 f154_31 rfl g154_40_12 (mb_52 x) rfl ?_
  refine zw_l2i 1 35 f154_34 rfl (by decide +kernel) ?_
  refine zw_goto 39 f154_35 (by decide +kernel) ?_
  refine zw_ireturn f154_39 r154 u154 ?_
  exact rfl
set_option maxRecDepth 100000 in
set_option maxHeartbeats 0 in
theorem m_now_o (ro : UInt32 → Nat × (Nat → Int32)) (x : Nat → va_E) (a : Int32) (h1 : a.toInt < 0 ∨ (2 : Int) < a.toInt) : zWp ro 154 0 [(0, .ref 52), (1, .int a)] [] (hMx x) 0 0 (fun r _ => r = some (.int (-1))) := by
  refine zw_iload_n 1 f154_0 rfl rfl ?_
  refine zw_if_eq_f 4 9 f154_1 (by decide +kernel) rfl (zl_ne h1 (by decide)) ?_
  refine zw_iload_n 5 f154_4 rfl rfl ?_
  refine zw_iconst 1 6 f154_5 rfl (by decide +kernel) ?_
  refine zw_ic_ne_t 25 f154_6 (by decide +kernel) (zl_ne h1 (by decide)) ?_
  refine zw_iload_n 26 f154_25 rfl rfl ?_
  refine zw_iconst 2 27 f154_26 rfl (by decide +kernel) ?_
  refine zw_ic_ne_t 38 f154_27 (by decide +kernel) (zl_ne h1 (by decide)) ?_
  refine zw_iconst (-1) 39 f154_38 rfl (by decide +kernel) ?_
  refine zw_ireturn f154_39 r154 u154 ?_
  exact rfl
set_option maxRecDepth 100000 in
set_option maxHeartbeats 0 in
theorem m_next_r (ro : UInt32 → Nat × (Nat → Int32)) (x : Nat → va_E) (a : Int32) : zWp ro 155 0 [(0, .ref 52), (1, .int a)] [] (hMx x) 0 0 (fun r _ => r = some (.long (-1))) := by
  refine zw_aload_n 1 f155_0 rfl rfl ?_
  refine zw_virtual_v 4 0 0 [.ref 52] [(0, .ref 52)] f155_1 rfl n155_228 k155_228_12 rfl (mb_52 x) (by decide +kernel) (Nat.le_of_ble_eq_true rfl) rfl rfl (by decide +kernel) (by decide +kernel) rfl (Nat.le_of_ble_eq_true rfl) rfl ?_
  refine zw_aload_n 1 f132_0 rfl rfl ?_
  refine zw_virtual_v 4 0 0 [.ref 52] [(0, .ref 52)] f132_1 rfl n132_151 k132_151_12 rfl (mb_52 x) (by decide +kernel) (Nat.le_of_ble_eq_true rfl) rfl rfl (by decide +kernel) (by decide +kernel) rfl (Nat.le_of_ble_eq_true rfl) rfl ?_
  refine zw_aload_n 1 f129_0 rfl rfl ?_
  refine zw_iconst 0 2 f129_1 rfl (by decide +kernel) ?_
  refine zw_putfieldS 5 f129_2 rfl g129_127_12 (mb_52 x) rfl rfl (by decide +kernel) ?_
  refine zw_aload_n 6 f129_5 rfl rfl ?_
  refine zw_iconst 0 7 f129_6 rfl (by decide +kernel) ?_
  refine zw_putfieldS 10 f129_7 rfl g129_124_12 (mb_52 x) rfl rfl (by decide +kernel) ?_
  refine zw_iconst 0 11 f129_10 rfl (by decide +kernel) ?_
  refine zw_istore_n [(1, .int 0), (0, .ref 52)] 12 f129_11 rfl (by decide +kernel) rfl ?_
  refine zw_iload_n 13 f129_12 rfl rfl ?_
  refine zw_bipush 8 15 f129_13 rfl (by decide +kernel) ?_
  refine zw_ic_ge_f 18 45 f129_15 (by decide +kernel) rfl (by decide +kernel) ?_
  refine zw_aload_n 19 f129_18 rfl rfl ?_
  refine zw_getfield 22 f129_19 rfl g129_77_12 (mb_52 x) rfl ?_
  refine zw_iload_n 23 f129_22 rfl rfl ?_
  refine zw_iconst 0 24 f129_23 rfl (by decide +kernel) ?_
  refine zw_iastoreS 0 25 f129_24 rfl (mb_72 x) (by decide +kernel) (by decide +kernel) (by decide +kernel) rfl ?_
  refine zw_aload_n 26 f129_25 rfl rfl ?_
  refine zw_getfield 29 f129_26 rfl g129_80_12 (mb_52 x) rfl ?_
  refine zw_iload_n 30 f129_29 rfl rfl ?_
  refine zw_iconst 0 31 f129_30 rfl (by decide +kernel) ?_
  refine zw_iastoreS 0 32 f129_31 rfl (mb_73 x) (by decide +kernel) (by decide +kernel) (by decide +kernel) rfl ?_
  refine zw_aload_n 33 f129_32 rfl rfl ?_
  refine zw_getfield 36 f129_33 rfl g129_83_12 (mb_52 x) rfl ?_
  refine zw_iload_n 37 f129_36 rfl rfl ?_
  refine zw_iconst 0 38 f129_37 rfl (by decide +kernel) ?_
  refine zw_iastoreS 0 39 f129_38 rfl (mb_74 x) (by decide +kernel) (by decide +kernel) (by decide +kernel) rfl ?_
  refine zw_iinc 1 [(1, .int 1), (0, .ref 52)] 42 f129_39 rfl rfl (by decide +kernel) (by decide +kernel) rfl ?_
  refine zw_goto 12 f129_42 (by decide +kernel) ?_
  refine zw_iload_n 13 f129_12 rfl rfl ?_
  refine zw_bipush 8 15 f129_13 rfl (by decide +kernel) ?_
  refine zw_ic_ge_f 18 45 f129_15 (by decide +kernel) rfl (by decide +kernel) ?_
  refine zw_aload_n 19 f129_18 rfl rfl ?_
  refine zw_getfield 22 f129_19 rfl g129_77_12 (mb_52 x) rfl ?_
  refine zw_iload_n 23 f129_22 rfl rfl ?_
  refine zw_iconst 0 24 f129_23 rfl (by decide +kernel) ?_
  refine zw_iastoreS 1 25 f129_24 rfl (mb_72 x) (by decide +kernel) (by decide +kernel) (by decide +kernel) rfl ?_
  refine zw_aload_n 26 f129_25 rfl rfl ?_
  refine zw_getfield 29 f129_26 rfl g129_80_12 (mb_52 x) rfl ?_
  refine zw_iload_n 30 f129_29 rfl rfl ?_
  refine zw_iconst 0 31 f129_30 rfl (by decide +kernel) ?_
  refine zw_iastoreS 1 32 f129_31 rfl (mb_73 x) (by decide +kernel) (by decide +kernel) (by decide +kernel) rfl ?_
  refine zw_aload_n 33 f129_32 rfl rfl ?_
  refine zw_getfield 36 f129_33 rfl g129_83_12 (mb_52 x) rfl ?_
  refine zw_iload_n 37 f129_36 rfl rfl ?_
  refine zw_iconst 0 38 f129_37 rfl (by decide +kernel) ?_
  refine zw_iastoreS 1 39 f129_38 rfl (mb_74 x) (by decide +kernel) (by decide +kernel) (by decide +kernel) rfl ?_
  refine zw_iinc 2 [(1, .int 2), (0, .ref 52)] 42 f129_39 rfl rfl (by decide +kernel) (by decide +kernel) rfl ?_
  refine zw_goto 12 f129_42 (by decide +kernel) ?_
  refine zw_iload_n 13 f129_12 rfl rfl ?_
  refine zw_bipush 8 15 f129_13 rfl (by decide +kernel) ?_
  refine zw_ic_ge_f 18 45 f129_15 (by decide +kernel) rfl (by decide +kernel) ?_
  refine zw_aload_n 19 f129_18 rfl rfl ?_
  refine zw_getfield 22 f129_19 rfl g129_77_12 (mb_52 x) rfl ?_
  refine zw_iload_n 23 f129_22 rfl rfl ?_
  refine zw_iconst 0 24 f129_23 rfl (by decide +kernel) ?_
  refine zw_iastoreS 2 25 f129_24 rfl (mb_72 x) (by decide +kernel) (by decide +kernel) (by decide +kernel) rfl ?_
  refine zw_aload_n 26 f129_25 rfl rfl ?_
  refine zw_getfield 29 f129_26 rfl g129_80_12 (mb_52 x) rfl ?_
  refine zw_iload_n 30 f129_29 rfl rfl ?_
  refine zw_iconst 0 31 f129_30 rfl (by decide +kernel) ?_
  refine zw_iastoreS 2 32 f129_31 rfl (mb_73 x) (by decide +kernel) (by decide +kernel) (by decide +kernel) rfl ?_
  refine zw_aload_n 33 f129_32 rfl rfl ?_
  refine zw_getfield 36 f129_33 rfl g129_83_12 (mb_52 x) rfl ?_
  refine zw_iload_n 37 f129_36 rfl rfl ?_
  refine zw_iconst 0 38 f129_37 rfl (by decide +kernel) ?_
  refine zw_iastoreS 2 39 f129_38 rfl (mb_74 x) (by decide +kernel) (by decide +kernel) (by decide +kernel) rfl ?_
  refine zw_iinc 3 [(1, .int 3), (0, .ref 52)] 42 f129_39 rfl rfl (by decide +kernel) (by decide +kernel) rfl ?_
  refine zw_goto 12 f129_42 (by decide +kernel) ?_
  refine zw_iload_n 13 f129_12 rfl rfl ?_
  refine zw_bipush 8 15 f129_13 rfl (by decide +kernel) ?_
  refine zw_ic_ge_f 18 45 f129_15 (by decide +kernel) rfl (by decide +kernel) ?_
  refine zw_aload_n 19 f129_18 rfl rfl ?_
  refine zw_getfield 22 f129_19 rfl g129_77_12 (mb_52 x) rfl ?_
  refine zw_iload_n 23 f129_22 rfl rfl ?_
  refine zw_iconst 0 24 f129_23 rfl (by decide +kernel) ?_
  refine zw_iastoreS 3 25 f129_24 rfl (mb_72 x) (by decide +kernel) (by decide +kernel) (by decide +kernel) rfl ?_
  refine zw_aload_n 26 f129_25 rfl rfl ?_
  refine zw_getfield 29 f129_26 rfl g129_80_12 (mb_52 x) rfl ?_
  refine zw_iload_n 30 f129_29 rfl rfl ?_
  refine zw_iconst 0 31 f129_30 rfl (by decide +kernel) ?_
  refine zw_iastoreS 3 32 f129_31 rfl (mb_73 x) (by decide +kernel) (by decide +kernel) (by decide +kernel) rfl ?_
  refine zw_aload_n 33 f129_32 rfl rfl ?_
  refine zw_getfield 36 f129_33 rfl g129_83_12 (mb_52 x) rfl ?_
  refine zw_iload_n 37 f129_36 rfl rfl ?_
  refine zw_iconst 0 38 f129_37 rfl (by decide +kernel) ?_
  refine zw_iastoreS 3 39 f129_38 rfl (mb_74 x) (by decide +kernel) (by decide +kernel) (by decide +kernel) rfl ?_
  refine zw_iinc 4 [(1, .int 4), (0, .ref 52)] 42 f129_39 rfl rfl (by decide +kernel) (by decide +kernel) rfl ?_
  refine zw_goto 12 f129_42 (by decide +kernel) ?_
  refine zw_iload_n 13 f129_12 rfl rfl ?_
  refine zw_bipush 8 15 f129_13 rfl (by decide +kernel) ?_
  refine zw_ic_ge_f 18 45 f129_15 (by decide +kernel) rfl (by decide +kernel) ?_
  refine zw_aload_n 19 f129_18 rfl rfl ?_
  refine zw_getfield 22 f129_19 rfl g129_77_12 (mb_52 x) rfl ?_
  refine zw_iload_n 23 f129_22 rfl rfl ?_
  refine zw_iconst 0 24 f129_23 rfl (by decide +kernel) ?_
  refine zw_iastoreS 4 25 f129_24 rfl (mb_72 x) (by decide +kernel) (by decide +kernel) (by decide +kernel) rfl ?_
  refine zw_aload_n 26 f129_25 rfl rfl ?_
  refine zw_getfield 29 f129_26 rfl g129_80_12 (mb_52 x) rfl ?_
  refine zw_iload_n 30 f129_29 rfl rfl ?_
  refine zw_iconst 0 31 f129_30 rfl (by decide +kernel) ?_
  refine zw_iastoreS 4 32 f129_31 rfl (mb_73 x) (by decide +kernel) (by decide +kernel) (by decide +kernel) rfl ?_
  refine zw_aload_n 33 f129_32 rfl rfl ?_
  refine zw_getfield 36 f129_33 rfl g129_83_12 (mb_52 x) rfl ?_
  refine zw_iload_n 37 f129_36 rfl rfl ?_
  refine zw_iconst 0 38 f129_37 rfl (by decide +kernel) ?_
  refine zw_iastoreS 4 39 f129_38 rfl (mb_74 x) (by decide +kernel) (by decide +kernel) (by decide +kernel) rfl ?_
  refine zw_iinc 5 [(1, .int 5), (0, .ref 52)] 42 f129_39 rfl rfl (by decide +kernel) (by decide +kernel) rfl ?_
  refine zw_goto 12 f129_42 (by decide +kernel) ?_
  refine zw_iload_n 13 f129_12 rfl rfl ?_
  refine zw_bipush 8 15 f129_13 rfl (by decide +kernel) ?_
  refine zw_ic_ge_f 18 45 f129_15 (by decide +kernel) rfl (by decide +kernel) ?_
  refine zw_aload_n 19 f129_18 rfl rfl ?_
  refine zw_getfield 22 f129_19 rfl g129_77_12 (mb_52 x) rfl ?_
  refine zw_iload_n 23 f129_22 rfl rfl ?_
  refine zw_iconst 0 24 f129_23 rfl (by decide +kernel) ?_
  refine zw_iastoreS 5 25 f129_24 rfl (mb_72 x) (by decide +kernel) (by decide +kernel) (by decide +kernel) rfl ?_
  refine zw_aload_n 26 f129_25 rfl rfl ?_
  refine zw_getfield 29 f129_26 rfl g129_80_12 (mb_52 x) rfl ?_
  refine zw_iload_n 30 f129_29 rfl rfl ?_
  refine zw_iconst 0 31 f129_30 rfl (by decide +kernel) ?_
  refine zw_iastoreS 5 32 f129_31 rfl (mb_73 x) (by decide +kernel) (by decide +kernel) (by decide +kernel) rfl ?_
  refine zw_aload_n 33 f129_32 rfl rfl ?_
  refine zw_getfield 36 f129_33 rfl g129_83_12 (mb_52 x) rfl ?_
  refine zw_iload_n 37 f129_36 rfl rfl ?_
  refine zw_iconst 0 38 f129_37 rfl (by decide +kernel) ?_
  refine zw_iastoreS 5 39 f129_38 rfl (mb_74 x) (by decide +kernel) (by decide +kernel) (by decide +kernel) rfl ?_
  refine zw_iinc 6 [(1, .int 6), (0, .ref 52)] 42 f129_39 rfl rfl (by decide +kernel) (by decide +kernel) rfl ?_
  refine zw_goto 12 f129_42 (by decide +kernel) ?_
  refine zw_iload_n 13 f129_12 rfl rfl ?_
  refine zw_bipush 8 15 f129_13 rfl (by decide +kernel) ?_
  refine zw_ic_ge_f 18 45 f129_15 (by decide +kernel) rfl (by decide +kernel) ?_
  refine zw_aload_n 19 f129_18 rfl rfl ?_
  refine zw_getfield 22 f129_19 rfl g129_77_12 (mb_52 x) rfl ?_
  refine zw_iload_n 23 f129_22 rfl rfl ?_
  refine zw_iconst 0 24 f129_23 rfl (by decide +kernel) ?_
  refine zw_iastoreS 6 25 f129_24 rfl (mb_72 x) (by decide +kernel) (by decide +kernel) (by decide +kernel) rfl ?_
  refine zw_aload_n 26 f129_25 rfl rfl ?_
  refine zw_getfield 29 f129_26 rfl g129_80_12 (mb_52 x) rfl ?_
  refine zw_iload_n 30 f129_29 rfl rfl ?_
  refine zw_iconst 0 31 f129_30 rfl (by decide +kernel) ?_
  refine zw_iastoreS 6 32 f129_31 rfl (mb_73 x) (by decide +kernel) (by decide +kernel) (by decide +kernel) rfl ?_
  refine zw_aload_n 33 f129_32 rfl rfl ?_
  refine zw_getfield 36 f129_33 rfl g129_83_12 (mb_52 x) rfl ?_
  refine zw_iload_n 37 f129_36 rfl rfl ?_
  refine zw_iconst 0 38 f129_37 rfl (by decide +kernel) ?_
  refine zw_iastoreS 6 39 f129_38 rfl (mb_74 x) (by decide +kernel) (by decide +kernel) (by decide +kernel) rfl ?_
  refine zw_iinc 7 [(1, .int 7), (0, .ref 52)] 42 f129_39 rfl rfl (by decide +kernel) (by decide +kernel) rfl ?_
  refine zw_goto 12 f129_42 (by decide +kernel) ?_
  refine zw_iload_n 13 f129_12 rfl rfl ?_
  refine zw_bipush 8 15 f129_13 rfl (by decide +kernel) ?_
  refine zw_ic_ge_f 18 45 f129_15 (by decide +kernel) rfl (by decide +kernel) ?_
  refine zw_aload_n 19 f129_18 rfl rfl ?_
  refine zw_getfield 22 f129_19 rfl g129_77_12 (mb_52 x) rfl ?_
  refine zw_iload_n 23 f129_22 rfl rfl ?_
  refine zw_iconst 0 24 f129_23 rfl (by decide +kernel) ?_
  refine zw_iastoreS 7 25 f129_24 rfl (mb_72 x) (by decide +kernel) (by decide +kernel) (by decide +kernel) rfl ?_
  refine zw_aload_n 26 f129_25 rfl rfl ?_
  refine zw_getfield 29 f129_26 rfl g129_80_12 (mb_52 x) rfl ?_
  refine zw_iload_n 30 f129_29 rfl rfl ?_
  refine zw_iconst 0 31 f129_30 rfl (by decide +kernel) ?_
  refine zw_iastoreS 7 32 f129_31 rfl (mb_73 x) (by decide +kernel) (by decide +kernel) (by decide +kernel) rfl ?_
  refine zw_aload_n 33 f129_32 rfl rfl ?_
  refine zw_getfield 36 f129_33 rfl g129_83_12 (mb_52 x) rfl ?_
  refine zw_iload_n 37 f129_36 rfl rfl ?_
  refine zw_iconst 0 38 f129_37 rfl (by decide +kernel) ?_
  refine zw_iastoreS 7 39 f129_38 rfl (mb_74 x) (by decide +kernel) (by decide +kernel) (by decide +kernel) rfl ?_
  refine zw_iinc 8 [(1, .int 8), (0, .ref 52)] 42 f129_39 rfl rfl (by decide +kernel) (by decide +kernel) rfl ?_
  refine zw_goto 12 f129_42 (by decide +kernel) ?_
  refine zw_iload_n 13 f129_12 rfl rfl ?_
  refine zw_bipush 8 15 f129_13 rfl (by decide +kernel) ?_
  refine zw_ic_ge_t 45 f129_15 (by decide +kernel) (by decide +kernel) ?_
  refine zw_iconst 0 46 f129_45 rfl (by decide +kernel) ?_
  refine zw_istore_n [(1, .int 0), (0, .ref 52)] 47 f129_46 rfl (by decide +kernel) rfl ?_
  refine zw_iload_n 48 f129_47 rfl rfl ?_
  refine zw_aload_n 49 f129_48 rfl rfl ?_
  refine zw_getfield 52 f129_49 rfl g129_121_12 (mb_52 x) rfl ?_
  refine zw_ic_ge_t 135 f129_52 (by decide +kernel) (by decide +kernel) ?_
  refine zw_iconst 0 136 f129_135 rfl (by decide +kernel) ?_
  refine zw_istore_n [(1, .int 0), (0, .ref 52)] 137 f129_136 rfl (by decide +kernel) rfl ?_
  refine zw_iload_n 138 f129_137 rfl rfl ?_
  refine zw_aload_n 139 f129_138 rfl rfl ?_
  refine zw_getfield 142 f129_139 rfl g129_114_12 (mb_52 x) rfl ?_
  refine zw_ic_ge_t 156 f129_142 (by decide +kernel) (by decide +kernel) ?_
  refine zw_vreturn f129_156 r129 u129 ⟨rfl, ?_⟩
  refine zw_aload_n 5 f132_4 rfl rfl ?_
  refine zw_iconst 1 6 f132_5 rfl (by decide +kernel) ?_
  refine zw_putfield 9 f132_6 rfl g132_142_12 (mb_52 x) rfl (zg_lt rfl) (by decide +kernel) ?_
  refine zw_iconst 0 10 f132_9 rfl (by decide +kernel) ?_
  refine zw_istore_n [(1, .int 0), (0, .ref 52)] 11 f132_10 rfl (by decide +kernel) rfl ?_
  refine zw_iload_n 12 f132_11 rfl rfl ?_
  refine zw_aload_n 13 f132_12 rfl rfl ?_
  refine zw_getfield 16 f132_13 rfl g132_114_12 (zg_eq (mb_52 x)) (zg_ne rfl rfl) ?_
  refine zw_ic_ge_t 179 f132_16 (by decide +kernel) (by decide +kernel) ?_
  refine zw_vreturn f132_179 r132 u132 ⟨rfl, ?_⟩
  refine zw_aload_n 5 f155_4 rfl rfl ?_
  refine zw_getfield 8 f155_5 rfl g155_142_12 (zg_eq (mb_52 x)) (zg_eq rfl) ?_
  refine zw_if_ne_t 20 f155_8 (by decide +kernel) (by decide +kernel) ?_
  refine zw_ldc2_w (-1) 23 f155_20 rfl (by decide +kernel) ?_
  refine zw_lreturn f155_23 r155 u155 ?_
  exact rfl
set_option maxRecDepth 100000 in
set_option maxHeartbeats 0 in
theorem m_level_r (ro : UInt32 → Nat × (Nat → Int32)) (x : Nat → va_E) (a b : Int32) : zWp ro 156 0 [(0, .ref 52), (1, .int a), (2, .int b)] [] (hMx x) 0 0 (fun r _ => r = some (.int (-1))) := by
  refine zw_aload_n 1 f156_0 rfl rfl ?_
  refine zw_iload_n 2 f156_1 rfl rfl ?_
  refine zw_virtual_i 5 0 0 [.ref 52, .int a] [(0, .ref 52), (1, .int a)] f156_2 rfl n156_215 k156_215_12 rfl (mb_52 x) (by decide +kernel) (Nat.le_of_ble_eq_true rfl) rfl rfl (by decide +kernel) (by decide +kernel) rfl (Nat.le_of_ble_eq_true rfl) rfl ?_
  refine zw_iload_n 1 f123_0 rfl rfl ?_
  refine zw_iconst 0 2 f123_1 rfl (by decide +kernel) ?_
  refine zw_aload_n 3 f123_2 rfl rfl ?_
  refine zw_getfield 6 f123_3 rfl g123_114_12 (mb_52 x) rfl ?_
  refine zw_iconst 1 7 f123_6 rfl (by decide +kernel) ?_
  refine zw_isub (-1) 8 f123_7 rfl (by decide +kernel) ?_
  refine zw_static_i 11 0 0 [.int a, .int 0, .int (-1)] [] [(0, .int a), (1, .int 0), (2, .int (-1))] f123_8 rfl k123_117_99 rfl (by decide +kernel) (Nat.le_of_ble_eq_true rfl) (Nat.le_of_ble_eq_true rfl) rfl rfl (by decide +kernel) (by decide +kernel) rfl (Nat.le_of_ble_eq_true rfl) rfl ?_
  refine zw_iload_n 1 f120_0 rfl rfl ?_
  refine zw_iload_n 2 f120_1 rfl rfl ?_
  refine zw_ic_lt 5 14 f120_2 (by decide +kernel) rfl (fun hc1 => ?_) (fun hc1 => ?_)
  · refine zw_iconst 0 15 f120_14 rfl (by decide +kernel) ?_
    refine zw_zreturn f120_15 r120 u120 (by decide +kernel) ⟨_, rfl, ?_⟩
    refine zw_zreturn f123_11 r123 u123 (by decide +kernel) ⟨_, rfl, ?_⟩
    refine zw_if_eq_t 35 f156_5 (by decide +kernel) (by decide +kernel) ?_
    refine zw_iconst (-1) 36 f156_35 rfl (by decide +kernel) ?_
    refine zw_ireturn f156_36 r156 u156 ?_
    exact rfl
  · refine zw_iload_n 6 f120_5 rfl rfl ?_
    refine zw_iload_n 7 f120_6 rfl rfl ?_
    refine zw_ic_gt_t 14 f120_7 (by decide +kernel) (zl_m1 hc1) ?_
    refine zw_iconst 0 15 f120_14 rfl (by decide +kernel) ?_
    refine zw_zreturn f120_15 r120 u120 (by decide +kernel) ⟨_, rfl, ?_⟩
    refine zw_zreturn f123_11 r123 u123 (by decide +kernel) ⟨_, rfl, ?_⟩
    refine zw_if_eq_t 35 f156_5 (by decide +kernel) (by decide +kernel) ?_
    refine zw_iconst (-1) 36 f156_35 rfl (by decide +kernel) ?_
    refine zw_ireturn f156_36 r156 u156 ?_
    exact rfl
set_option maxRecDepth 100000 in
set_option maxHeartbeats 0 in
theorem m_rate_r (ro : UInt32 → Nat × (Nat → Int32)) (x : Nat → va_E) (a : Int32) : zWp ro 157 0 [(0, .ref 52), (1, .int a)] [] (hMx x) 0 0 (fun r _ => r = some (.int (-1000000))) := by
  refine zw_aload_n 1 f157_0 rfl rfl ?_
  refine zw_virtual_v 4 0 0 [.ref 52] [(0, .ref 52)] f157_1 rfl n157_151 k157_151_12 rfl (mb_52 x) (by decide +kernel) (Nat.le_of_ble_eq_true rfl) rfl rfl (by decide +kernel) (by decide +kernel) rfl (Nat.le_of_ble_eq_true rfl) rfl ?_
  refine zw_aload_n 1 f129_0 rfl rfl ?_
  refine zw_iconst 0 2 f129_1 rfl (by decide +kernel) ?_
  refine zw_putfieldS 5 f129_2 rfl g129_127_12 (mb_52 x) rfl rfl (by decide +kernel) ?_
  refine zw_aload_n 6 f129_5 rfl rfl ?_
  refine zw_iconst 0 7 f129_6 rfl (by decide +kernel) ?_
  refine zw_putfieldS 10 f129_7 rfl g129_124_12 (mb_52 x) rfl rfl (by decide +kernel) ?_
  refine zw_iconst 0 11 f129_10 rfl (by decide +kernel) ?_
  refine zw_istore_n [(1, .int 0), (0, .ref 52)] 12 f129_11 rfl (by decide +kernel) rfl ?_
  refine zw_iload_n 13 f129_12 rfl rfl ?_
  refine zw_bipush 8 15 f129_13 rfl (by decide +kernel) ?_
  refine zw_ic_ge_f 18 45 f129_15 (by decide +kernel) rfl (by decide +kernel) ?_
  refine zw_aload_n 19 f129_18 rfl rfl ?_
  refine zw_getfield 22 f129_19 rfl g129_77_12 (mb_52 x) rfl ?_
  refine zw_iload_n 23 f129_22 rfl rfl ?_
  refine zw_iconst 0 24 f129_23 rfl (by decide +kernel) ?_
  refine zw_iastoreS 0 25 f129_24 rfl (mb_72 x) (by decide +kernel) (by decide +kernel) (by decide +kernel) rfl ?_
  refine zw_aload_n 26 f129_25 rfl rfl ?_
  refine zw_getfield 29 f129_26 rfl g129_80_12 (mb_52 x) rfl ?_
  refine zw_iload_n 30 f129_29 rfl rfl ?_
  refine zw_iconst 0 31 f129_30 rfl (by decide +kernel) ?_
  refine zw_iastoreS 0 32 f129_31 rfl (mb_73 x) (by decide +kernel) (by decide +kernel) (by decide +kernel) rfl ?_
  refine zw_aload_n 33 f129_32 rfl rfl ?_
  refine zw_getfield 36 f129_33 rfl g129_83_12 (mb_52 x) rfl ?_
  refine zw_iload_n 37 f129_36 rfl rfl ?_
  refine zw_iconst 0 38 f129_37 rfl (by decide +kernel) ?_
  refine zw_iastoreS 0 39 f129_38 rfl (mb_74 x) (by decide +kernel) (by decide +kernel) (by decide +kernel) rfl ?_
  refine zw_iinc 1 [(1, .int 1), (0, .ref 52)] 42 f129_39 rfl rfl (by decide +kernel) (by decide +kernel) rfl ?_
  refine zw_goto 12 f129_42 (by decide +kernel) ?_
  refine zw_iload_n 13 f129_12 rfl rfl ?_
  refine zw_bipush 8 15 f129_13 rfl (by decide +kernel) ?_
  refine zw_ic_ge_f 18 45 f129_15 (by decide +kernel) rfl (by decide +kernel) ?_
  refine zw_aload_n 19 f129_18 rfl rfl ?_
  refine zw_getfield 22 f129_19 rfl g129_77_12 (mb_52 x) rfl ?_
  refine zw_iload_n 23 f129_22 rfl rfl ?_
  refine zw_iconst 0 24 f129_23 rfl (by decide +kernel) ?_
  refine zw_iastoreS 1 25 f129_24 rfl (mb_72 x) (by decide +kernel) (by decide +kernel) (by decide +kernel) rfl ?_
  refine zw_aload_n 26 f129_25 rfl rfl ?_
  refine zw_getfield 29 f129_26 rfl g129_80_12 (mb_52 x) rfl ?_
  refine zw_iload_n 30 f129_29 rfl rfl ?_
  refine zw_iconst 0 31 f129_30 rfl (by decide +kernel) ?_
  refine zw_iastoreS 1 32 f129_31 rfl (mb_73 x) (by decide +kernel) (by decide +kernel) (by decide +kernel) rfl ?_
  refine zw_aload_n 33 f129_32 rfl rfl ?_
  refine zw_getfield 36 f129_33 rfl g129_83_12 (mb_52 x) rfl ?_
  refine zw_iload_n 37 f129_36 rfl rfl ?_
  refine zw_iconst 0 38 f129_37 rfl (by decide +kernel) ?_
  refine zw_iastoreS 1 39 f129_38 rfl (mb_74 x) (by decide +kernel) (by decide +kernel) (by decide +kernel) rfl ?_
  refine zw_iinc 2 [(1, .int 2), (0, .ref 52)] 42 f129_39 rfl rfl (by decide +kernel) (by decide +kernel) rfl ?_
  refine zw_goto 12 f129_42 (by decide +kernel) ?_
  refine zw_iload_n 13 f129_12 rfl rfl ?_
  refine zw_bipush 8 15 f129_13 rfl (by decide +kernel) ?_
  refine zw_ic_ge_f 18 45 f129_15 (by decide +kernel) rfl (by decide +kernel) ?_
  refine zw_aload_n 19 f129_18 rfl rfl ?_
  refine zw_getfield 22 f129_19 rfl g129_77_12 (mb_52 x) rfl ?_
  refine zw_iload_n 23 f129_22 rfl rfl ?_
  refine zw_iconst 0 24 f129_23 rfl (by decide +kernel) ?_
  refine zw_iastoreS 2 25 f129_24 rfl (mb_72 x) (by decide +kernel) (by decide +kernel) (by decide +kernel) rfl ?_
  refine zw_aload_n 26 f129_25 rfl rfl ?_
  refine zw_getfield 29 f129_26 rfl g129_80_12 (mb_52 x) rfl ?_
  refine zw_iload_n 30 f129_29 rfl rfl ?_
  refine zw_iconst 0 31 f129_30 rfl (by decide +kernel) ?_
  refine zw_iastoreS 2 32 f129_31 rfl (mb_73 x) (by decide +kernel) (by decide +kernel) (by decide +kernel) rfl ?_
  refine zw_aload_n 33 f129_32 rfl rfl ?_
  refine zw_getfield 36 f129_33 rfl g129_83_12 (mb_52 x) rfl ?_
  refine zw_iload_n 37 f129_36 rfl rfl ?_
  refine zw_iconst 0 38 f129_37 rfl (by decide +kernel) ?_
  refine zw_iastoreS 2 39 f129_38 rfl (mb_74 x) (by decide +kernel) (by decide +kernel) (by decide +kernel) rfl ?_
  refine zw_iinc 3 [(1, .int 3), (0, .ref 52)] 42 f129_39 rfl rfl (by decide +kernel) (by decide +kernel) rfl ?_
  refine zw_goto 12 f129_42 (by decide +kernel) ?_
  refine zw_iload_n 13 f129_12 rfl rfl ?_
  refine zw_bipush 8 15 f129_13 rfl (by decide +kernel) ?_
  refine zw_ic_ge_f 18 45 f129_15 (by decide +kernel) rfl (by decide +kernel) ?_
  refine zw_aload_n 19 f129_18 rfl rfl ?_
  refine zw_getfield 22 f129_19 rfl g129_77_12 (mb_52 x) rfl ?_
  refine zw_iload_n 23 f129_22 rfl rfl ?_
  refine zw_iconst 0 24 f129_23 rfl (by decide +kernel) ?_
  refine zw_iastoreS 3 25 f129_24 rfl (mb_72 x) (by decide +kernel) (by decide +kernel) (by decide +kernel) rfl ?_
  refine zw_aload_n 26 f129_25 rfl rfl ?_
  refine zw_getfield 29 f129_26 rfl g129_80_12 (mb_52 x) rfl ?_
  refine zw_iload_n 30 f129_29 rfl rfl ?_
  refine zw_iconst 0 31 f129_30 rfl (by decide +kernel) ?_
  refine zw_iastoreS 3 32 f129_31 rfl (mb_73 x) (by decide +kernel) (by decide +kernel) (by decide +kernel) rfl ?_
  refine zw_aload_n 33 f129_32 rfl rfl ?_
  refine zw_getfield 36 f129_33 rfl g129_83_12 (mb_52 x) rfl ?_
  refine zw_iload_n 37 f129_36 rfl rfl ?_
  refine zw_iconst 0 38 f129_37 rfl (by decide +kernel) ?_
  refine zw_iastoreS 3 39 f129_38 rfl (mb_74 x) (by decide +kernel) (by decide +kernel) (by decide +kernel) rfl ?_
  refine zw_iinc 4 [(1, .int 4), (0, .ref 52)] 42 f129_39 rfl rfl (by decide +kernel) (by decide +kernel) rfl ?_
  refine zw_goto 12 f129_42 (by decide +kernel) ?_
  refine zw_iload_n 13 f129_12 rfl rfl ?_
  refine zw_bipush 8 15 f129_13 rfl (by decide +kernel) ?_
  refine zw_ic_ge_f 18 45 f129_15 (by decide +kernel) rfl (by decide +kernel) ?_
  refine zw_aload_n 19 f129_18 rfl rfl ?_
  refine zw_getfield 22 f129_19 rfl g129_77_12 (mb_52 x) rfl ?_
  refine zw_iload_n 23 f129_22 rfl rfl ?_
  refine zw_iconst 0 24 f129_23 rfl (by decide +kernel) ?_
  refine zw_iastoreS 4 25 f129_24 rfl (mb_72 x) (by decide +kernel) (by decide +kernel) (by decide +kernel) rfl ?_
  refine zw_aload_n 26 f129_25 rfl rfl ?_
  refine zw_getfield 29 f129_26 rfl g129_80_12 (mb_52 x) rfl ?_
  refine zw_iload_n 30 f129_29 rfl rfl ?_
  refine zw_iconst 0 31 f129_30 rfl (by decide +kernel) ?_
  refine zw_iastoreS 4 32 f129_31 rfl (mb_73 x) (by decide +kernel) (by decide +kernel) (by decide +kernel) rfl ?_
  refine zw_aload_n 33 f129_32 rfl rfl ?_
  refine zw_getfield 36 f129_33 rfl g129_83_12 (mb_52 x) rfl ?_
  refine zw_iload_n 37 f129_36 rfl rfl ?_
  refine zw_iconst 0 38 f129_37 rfl (by decide +kernel) ?_
  refine zw_iastoreS 4 39 f129_38 rfl (mb_74 x) (by decide +kernel) (by decide +kernel) (by decide +kernel) rfl ?_
  refine zw_iinc 5 [(1, .int 5), (0, .ref 52)] 42 f129_39 rfl rfl (by decide +kernel) (by decide +kernel) rfl ?_
  refine zw_goto 12 f129_42 (by decide +kernel) ?_
  refine zw_iload_n 13 f129_12 rfl rfl ?_
  refine zw_bipush 8 15 f129_13 rfl (by decide +kernel) ?_
  refine zw_ic_ge_f 18 45 f129_15 (by decide +kernel) rfl (by decide +kernel) ?_
  refine zw_aload_n 19 f129_18 rfl rfl ?_
  refine zw_getfield 22 f129_19 rfl g129_77_12 (mb_52 x) rfl ?_
  refine zw_iload_n 23 f129_22 rfl rfl ?_
  refine zw_iconst 0 24 f129_23 rfl (by decide +kernel) ?_
  refine zw_iastoreS 5 25 f129_24 rfl (mb_72 x) (by decide +kernel) (by decide +kernel) (by decide +kernel) rfl ?_
  refine zw_aload_n 26 f129_25 rfl rfl ?_
  refine zw_getfield 29 f129_26 rfl g129_80_12 (mb_52 x) rfl ?_
  refine zw_iload_n 30 f129_29 rfl rfl ?_
  refine zw_iconst 0 31 f129_30 rfl (by decide +kernel) ?_
  refine zw_iastoreS 5 32 f129_31 rfl (mb_73 x) (by decide +kernel) (by decide +kernel) (by decide +kernel) rfl ?_
  refine zw_aload_n 33 f129_32 rfl rfl ?_
  refine zw_getfield 36 f129_33 rfl g129_83_12 (mb_52 x) rfl ?_
  refine zw_iload_n 37 f129_36 rfl rfl ?_
  refine zw_iconst 0 38 f129_37 rfl (by decide +kernel) ?_
  refine zw_iastoreS 5 39 f129_38 rfl (mb_74 x) (by decide +kernel) (by decide +kernel) (by decide +kernel) rfl ?_
  refine zw_iinc 6 [(1, .int 6), (0, .ref 52)] 42 f129_39 rfl rfl (by decide +kernel) (by decide +kernel) rfl ?_
  refine zw_goto 12 f129_42 (by decide +kernel) ?_
  refine zw_iload_n 13 f129_12 rfl rfl ?_
  refine zw_bipush 8 15 f129_13 rfl (by decide +kernel) ?_
  refine zw_ic_ge_f 18 45 f129_15 (by decide +kernel) rfl (by decide +kernel) ?_
  refine zw_aload_n 19 f129_18 rfl rfl ?_
  refine zw_getfield 22 f129_19 rfl g129_77_12 (mb_52 x) rfl ?_
  refine zw_iload_n 23 f129_22 rfl rfl ?_
  refine zw_iconst 0 24 f129_23 rfl (by decide +kernel) ?_
  refine zw_iastoreS 6 25 f129_24 rfl (mb_72 x) (by decide +kernel) (by decide +kernel) (by decide +kernel) rfl ?_
  refine zw_aload_n 26 f129_25 rfl rfl ?_
  refine zw_getfield 29 f129_26 rfl g129_80_12 (mb_52 x) rfl ?_
  refine zw_iload_n 30 f129_29 rfl rfl ?_
  refine zw_iconst 0 31 f129_30 rfl (by decide +kernel) ?_
  refine zw_iastoreS 6 32 f129_31 rfl (mb_73 x) (by decide +kernel) (by decide +kernel) (by decide +kernel) rfl ?_
  refine zw_aload_n 33 f129_32 rfl rfl ?_
  refine zw_getfield 36 f129_33 rfl g129_83_12 (mb_52 x) rfl ?_
  refine zw_iload_n 37 f129_36 rfl rfl ?_
  refine zw_iconst 0 38 f129_37 rfl (by decide +kernel) ?_
  refine zw_iastoreS 6 39 f129_38 rfl (mb_74 x) (by decide +kernel) (by decide +kernel) (by decide +kernel) rfl ?_
  refine zw_iinc 7 [(1, .int 7), (0, .ref 52)] 42 f129_39 rfl rfl (by decide +kernel) (by decide +kernel) rfl ?_
  refine zw_goto 12 f129_42 (by decide +kernel) ?_
  refine zw_iload_n 13 f129_12 rfl rfl ?_
  refine zw_bipush 8 15 f129_13 rfl (by decide +kernel) ?_
  refine zw_ic_ge_f 18 45 f129_15 (by decide +kernel) rfl (by decide +kernel) ?_
  refine zw_aload_n 19 f129_18 rfl rfl ?_
  refine zw_getfield 22 f129_19 rfl g129_77_12 (mb_52 x) rfl ?_
  refine zw_iload_n 23 f129_22 rfl rfl ?_
  refine zw_iconst 0 24 f129_23 rfl (by decide +kernel) ?_
  refine zw_iastoreS 7 25 f129_24 rfl (mb_72 x) (by decide +kernel) (by decide +kernel) (by decide +kernel) rfl ?_
  refine zw_aload_n 26 f129_25 rfl rfl ?_
  refine zw_getfield 29 f129_26 rfl g129_80_12 (mb_52 x) rfl ?_
  refine zw_iload_n 30 f129_29 rfl rfl ?_
  refine zw_iconst 0 31 f129_30 rfl (by decide +kernel) ?_
  refine zw_iastoreS 7 32 f129_31 rfl (mb_73 x) (by decide +kernel) (by decide +kernel) (by decide +kernel) rfl ?_
  refine zw_aload_n 33 f129_32 rfl rfl ?_
  refine zw_getfield 36 f129_33 rfl g129_83_12 (mb_52 x) rfl ?_
  refine zw_iload_n 37 f129_36 rfl rfl ?_
  refine zw_iconst 0 38 f129_37 rfl (by decide +kernel) ?_
  refine zw_iastoreS 7 39 f129_38 rfl (mb_74 x) (by decide +kernel) (by decide +kernel) (by decide +kernel) rfl ?_
  refine zw_iinc 8 [(1, .int 8), (0, .ref 52)] 42 f129_39 rfl rfl (by decide +kernel) (by decide +kernel) rfl ?_
  refine zw_goto 12 f129_42 (by decide +kernel) ?_
  refine zw_iload_n 13 f129_12 rfl rfl ?_
  refine zw_bipush 8 15 f129_13 rfl (by decide +kernel) ?_
  refine zw_ic_ge_t 45 f129_15 (by decide +kernel) (by decide +kernel) ?_
  refine zw_iconst 0 46 f129_45 rfl (by decide +kernel) ?_
  refine zw_istore_n [(1, .int 0), (0, .ref 52)] 47 f129_46 rfl (by decide +kernel) rfl ?_
  refine zw_iload_n 48 f129_47 rfl rfl ?_
  refine zw_aload_n 49 f129_48 rfl rfl ?_
  refine zw_getfield 52 f129_49 rfl g129_121_12 (mb_52 x) rfl ?_
  refine zw_ic_ge_t 135 f129_52 (by decide +kernel) (by decide +kernel) ?_
  refine zw_iconst 0 136 f129_135 rfl (by decide +kernel) ?_
  refine zw_istore_n [(1, .int 0), (0, .ref 52)] 137 f129_136 rfl (by decide +kernel) rfl ?_
  refine zw_iload_n 138 f129_137 rfl rfl ?_
  refine zw_aload_n 139 f129_138 rfl rfl ?_
  refine zw_getfield 142 f129_139 rfl g129_114_12 (mb_52 x) rfl ?_
  refine zw_ic_ge_t 156 f129_142 (by decide +kernel) (by decide +kernel) ?_
  refine zw_vreturn f129_156 r129 u129 ⟨rfl, ?_⟩
  refine zw_aload_n 5 f157_4 rfl rfl ?_
  refine zw_iload_n 6 f157_5 rfl rfl ?_
  refine zw_virtual_i 9 0 0 [.ref 52, .int a] [(0, .ref 52), (1, .int a)] f157_6 rfl n157_215 k157_215_12 rfl (mb_52 x) (by decide +kernel) (Nat.le_of_ble_eq_true rfl) rfl rfl (by decide +kernel) (by decide +kernel) rfl (Nat.le_of_ble_eq_true rfl) rfl ?_
  refine zw_iload_n 1 f123_0 rfl rfl ?_
  refine zw_iconst 0 2 f123_1 rfl (by decide +kernel) ?_
  refine zw_aload_n 3 f123_2 rfl rfl ?_
  refine zw_getfield 6 f123_3 rfl g123_114_12 (mb_52 x) rfl ?_
  refine zw_iconst 1 7 f123_6 rfl (by decide +kernel) ?_
  refine zw_isub (-1) 8 f123_7 rfl (by decide +kernel) ?_
  refine zw_static_i 11 0 0 [.int a, .int 0, .int (-1)] [] [(0, .int a), (1, .int 0), (2, .int (-1))] f123_8 rfl k123_117_99 rfl (by decide +kernel) (Nat.le_of_ble_eq_true rfl) (Nat.le_of_ble_eq_true rfl) rfl rfl (by decide +kernel) (by decide +kernel) rfl (Nat.le_of_ble_eq_true rfl) rfl ?_
  refine zw_iload_n 1 f120_0 rfl rfl ?_
  refine zw_iload_n 2 f120_1 rfl rfl ?_
  refine zw_ic_lt 5 14 f120_2 (by decide +kernel) rfl (fun hc1 => ?_) (fun hc1 => ?_)
  · refine zw_iconst 0 15 f120_14 rfl (by decide +kernel) ?_
    refine zw_zreturn f120_15 r120 u120 (by decide +kernel) ⟨_, rfl, ?_⟩
    refine zw_zreturn f123_11 r123 u123 (by decide +kernel) ⟨_, rfl, ?_⟩
    refine zw_if_eq_t 21 f157_9 (by decide +kernel) (by decide +kernel) ?_
    refine zw_ldc (-1000000) 23 f157_21 rfl (by decide +kernel) ?_
    refine zw_ireturn f157_23 r157 u157 ?_
    exact rfl
  · refine zw_iload_n 6 f120_5 rfl rfl ?_
    refine zw_iload_n 7 f120_6 rfl rfl ?_
    refine zw_ic_gt_t 14 f120_7 (by decide +kernel) (zl_m1 hc1) ?_
    refine zw_iconst 0 15 f120_14 rfl (by decide +kernel) ?_
    refine zw_zreturn f120_15 r120 u120 (by decide +kernel) ⟨_, rfl, ?_⟩
    refine zw_zreturn f123_11 r123 u123 (by decide +kernel) ⟨_, rfl, ?_⟩
    refine zw_if_eq_t 21 f157_9 (by decide +kernel) (by decide +kernel) ?_
    refine zw_ldc (-1000000) 23 f157_21 rfl (by decide +kernel) ?_
    refine zw_ireturn f157_23 r157 u157 ?_
    exact rfl
set_option maxRecDepth 100000 in
set_option maxHeartbeats 0 in
theorem m_flow_r (ro : UInt32 → Nat × (Nat → Int32)) (x : Nat → va_E) (a : Int32) : zWp ro 158 0 [(0, .ref 52), (1, .int a)] [] (hMx x) 0 0 (fun r _ => r = some (.int (-1))) := by
  refine zw_aload_n 1 f158_0 rfl rfl ?_
  refine zw_virtual_v 4 0 0 [.ref 52] [(0, .ref 52)] f158_1 rfl n158_151 k158_151_12 rfl (mb_52 x) (by decide +kernel) (Nat.le_of_ble_eq_true rfl) rfl rfl (by decide +kernel) (by decide +kernel) rfl (Nat.le_of_ble_eq_true rfl) rfl ?_
  refine zw_aload_n 1 f129_0 rfl rfl ?_
  refine zw_iconst 0 2 f129_1 rfl (by decide +kernel) ?_
  refine zw_putfieldS 5 f129_2 rfl g129_127_12 (mb_52 x) rfl rfl (by decide +kernel) ?_
  refine zw_aload_n 6 f129_5 rfl rfl ?_
  refine zw_iconst 0 7 f129_6 rfl (by decide +kernel) ?_
  refine zw_putfieldS 10 f129_7 rfl g129_124_12 (mb_52 x) rfl rfl (by decide +kernel) ?_
  refine zw_iconst 0 11 f129_10 rfl (by decide +kernel) ?_
  refine zw_istore_n [(1, .int 0), (0, .ref 52)] 12 f129_11 rfl (by decide +kernel) rfl ?_
  refine zw_iload_n 13 f129_12 rfl rfl ?_
  refine zw_bipush 8 15 f129_13 rfl (by decide +kernel) ?_
  refine zw_ic_ge_f 18 45 f129_15 (by decide +kernel) rfl (by decide +kernel) ?_
  refine zw_aload_n 19 f129_18 rfl rfl ?_
  refine zw_getfield 22 f129_19 rfl g129_77_12 (mb_52 x) rfl ?_
  refine zw_iload_n 23 f129_22 rfl rfl ?_
  refine zw_iconst 0 24 f129_23 rfl (by decide +kernel) ?_
  refine zw_iastoreS 0 25 f129_24 rfl (mb_72 x) (by decide +kernel) (by decide +kernel) (by decide +kernel) rfl ?_
  refine zw_aload_n 26 f129_25 rfl rfl ?_
  refine zw_getfield 29 f129_26 rfl g129_80_12 (mb_52 x) rfl ?_
  refine zw_iload_n 30 f129_29 rfl rfl ?_
  refine zw_iconst 0 31 f129_30 rfl (by decide +kernel) ?_
  refine zw_iastoreS 0 32 f129_31 rfl (mb_73 x) (by decide +kernel) (by decide +kernel) (by decide +kernel) rfl ?_
  refine zw_aload_n 33 f129_32 rfl rfl ?_
  refine zw_getfield 36 f129_33 rfl g129_83_12 (mb_52 x) rfl ?_
  refine zw_iload_n 37 f129_36 rfl rfl ?_
  refine zw_iconst 0 38 f129_37 rfl (by decide +kernel) ?_
  refine zw_iastoreS 0 39 f129_38 rfl (mb_74 x) (by decide +kernel) (by decide +kernel) (by decide +kernel) rfl ?_
  refine zw_iinc 1 [(1, .int 1), (0, .ref 52)] 42 f129_39 rfl rfl (by decide +kernel) (by decide +kernel) rfl ?_
  refine zw_goto 12 f129_42 (by decide +kernel) ?_
  refine zw_iload_n 13 f129_12 rfl rfl ?_
  refine zw_bipush 8 15 f129_13 rfl (by decide +kernel) ?_
  refine zw_ic_ge_f 18 45 f129_15 (by decide +kernel) rfl (by decide +kernel) ?_
  refine zw_aload_n 19 f129_18 rfl rfl ?_
  refine zw_getfield 22 f129_19 rfl g129_77_12 (mb_52 x) rfl ?_
  refine zw_iload_n 23 f129_22 rfl rfl ?_
  refine zw_iconst 0 24 f129_23 rfl (by decide +kernel) ?_
  refine zw_iastoreS 1 25 f129_24 rfl (mb_72 x) (by decide +kernel) (by decide +kernel) (by decide +kernel) rfl ?_
  refine zw_aload_n 26 f129_25 rfl rfl ?_
  refine zw_getfield 29 f129_26 rfl g129_80_12 (mb_52 x) rfl ?_
  refine zw_iload_n 30 f129_29 rfl rfl ?_
  refine zw_iconst 0 31 f129_30 rfl (by decide +kernel) ?_
  refine zw_iastoreS 1 32 f129_31 rfl (mb_73 x) (by decide +kernel) (by decide +kernel) (by decide +kernel) rfl ?_
  refine zw_aload_n 33 f129_32 rfl rfl ?_
  refine zw_getfield 36 f129_33 rfl g129_83_12 (mb_52 x) rfl ?_
  refine zw_iload_n 37 f129_36 rfl rfl ?_
  refine zw_iconst 0 38 f129_37 rfl (by decide +kernel) ?_
  refine zw_iastoreS 1 39 f129_38 rfl (mb_74 x) (by decide +kernel) (by decide +kernel) (by decide +kernel) rfl ?_
  refine zw_iinc 2 [(1, .int 2), (0, .ref 52)] 42 f129_39 rfl rfl (by decide +kernel) (by decide +kernel) rfl ?_
  refine zw_goto 12 f129_42 (by decide +kernel) ?_
  refine zw_iload_n 13 f129_12 rfl rfl ?_
  refine zw_bipush 8 15 f129_13 rfl (by decide +kernel) ?_
  refine zw_ic_ge_f 18 45 f129_15 (by decide +kernel) rfl (by decide +kernel) ?_
  refine zw_aload_n 19 f129_18 rfl rfl ?_
  refine zw_getfield 22 f129_19 rfl g129_77_12 (mb_52 x) rfl ?_
  refine zw_iload_n 23 f129_22 rfl rfl ?_
  refine zw_iconst 0 24 f129_23 rfl (by decide +kernel) ?_
  refine zw_iastoreS 2 25 f129_24 rfl (mb_72 x) (by decide +kernel) (by decide +kernel) (by decide +kernel) rfl ?_
  refine zw_aload_n 26 f129_25 rfl rfl ?_
  refine zw_getfield 29 f129_26 rfl g129_80_12 (mb_52 x) rfl ?_
  refine zw_iload_n 30 f129_29 rfl rfl ?_
  refine zw_iconst 0 31 f129_30 rfl (by decide +kernel) ?_
  refine zw_iastoreS 2 32 f129_31 rfl (mb_73 x) (by decide +kernel) (by decide +kernel) (by decide +kernel) rfl ?_
  refine zw_aload_n 33 f129_32 rfl rfl ?_
  refine zw_getfield 36 f129_33 rfl g129_83_12 (mb_52 x) rfl ?_
  refine zw_iload_n 37 f129_36 rfl rfl ?_
  refine zw_iconst 0 38 f129_37 rfl (by decide +kernel) ?_
  refine zw_iastoreS 2 39 f129_38 rfl (mb_74 x) (by decide +kernel) (by decide +kernel) (by decide +kernel) rfl ?_
  refine zw_iinc 3 [(1, .int 3), (0, .ref 52)] 42 f129_39 rfl rfl (by decide +kernel) (by decide +kernel) rfl ?_
  refine zw_goto 12 f129_42 (by decide +kernel) ?_
  refine zw_iload_n 13 f129_12 rfl rfl ?_
  refine zw_bipush 8 15 f129_13 rfl (by decide +kernel) ?_
  refine zw_ic_ge_f 18 45 f129_15 (by decide +kernel) rfl (by decide +kernel) ?_
  refine zw_aload_n 19 f129_18 rfl rfl ?_
  refine zw_getfield 22 f129_19 rfl g129_77_12 (mb_52 x) rfl ?_
  refine zw_iload_n 23 f129_22 rfl rfl ?_
  refine zw_iconst 0 24 f129_23 rfl (by decide +kernel) ?_
  refine zw_iastoreS 3 25 f129_24 rfl (mb_72 x) (by decide +kernel) (by decide +kernel) (by decide +kernel) rfl ?_
  refine zw_aload_n 26 f129_25 rfl rfl ?_
  refine zw_getfield 29 f129_26 rfl g129_80_12 (mb_52 x) rfl ?_
  refine zw_iload_n 30 f129_29 rfl rfl ?_
  refine zw_iconst 0 31 f129_30 rfl (by decide +kernel) ?_
  refine zw_iastoreS 3 32 f129_31 rfl (mb_73 x) (by decide +kernel) (by decide +kernel) (by decide +kernel) rfl ?_
  refine zw_aload_n 33 f129_32 rfl rfl ?_
  refine zw_getfield 36 f129_33 rfl g129_83_12 (mb_52 x) rfl ?_
  refine zw_iload_n 37 f129_36 rfl rfl ?_
  refine zw_iconst 0 38 f129_37 rfl (by decide +kernel) ?_
  refine zw_iastoreS 3 39 f129_38 rfl (mb_74 x) (by decide +kernel) (by decide +kernel) (by decide +kernel) rfl ?_
  refine zw_iinc 4 [(1, .int 4), (0, .ref 52)] 42 f129_39 rfl rfl (by decide +kernel) (by decide +kernel) rfl ?_
  refine zw_goto 12 f129_42 (by decide +kernel) ?_
  refine zw_iload_n 13 f129_12 rfl rfl ?_
  refine zw_bipush 8 15 f129_13 rfl (by decide +kernel) ?_
  refine zw_ic_ge_f 18 45 f129_15 (by decide +kernel) rfl (by decide +kernel) ?_
  refine zw_aload_n 19 f129_18 rfl rfl ?_
  refine zw_getfield 22 f129_19 rfl g129_77_12 (mb_52 x) rfl ?_
  refine zw_iload_n 23 f129_22 rfl rfl ?_
  refine zw_iconst 0 24 f129_23 rfl (by decide +kernel) ?_
  refine zw_iastoreS 4 25 f129_24 rfl (mb_72 x) (by decide +kernel) (by decide +kernel) (by decide +kernel) rfl ?_
  refine zw_aload_n 26 f129_25 rfl rfl ?_
  refine zw_getfield 29 f129_26 rfl g129_80_12 (mb_52 x) rfl ?_
  refine zw_iload_n 30 f129_29 rfl rfl ?_
  refine zw_iconst 0 31 f129_30 rfl (by decide +kernel) ?_
  refine zw_iastoreS 4 32 f129_31 rfl (mb_73 x) (by decide +kernel) (by decide +kernel) (by decide +kernel) rfl ?_
  refine zw_aload_n 33 f129_32 rfl rfl ?_
  refine zw_getfield 36 f129_33 rfl g129_83_12 (mb_52 x) rfl ?_
  refine zw_iload_n 37 f129_36 rfl rfl ?_
  refine zw_iconst 0 38 f129_37 rfl (by decide +kernel) ?_
  refine zw_iastoreS 4 39 f129_38 rfl (mb_74 x) (by decide +kernel) (by decide +kernel) (by decide +kernel) rfl ?_
  refine zw_iinc 5 [(1, .int 5), (0, .ref 52)] 42 f129_39 rfl rfl (by decide +kernel) (by decide +kernel) rfl ?_
  refine zw_goto 12 f129_42 (by decide +kernel) ?_
  refine zw_iload_n 13 f129_12 rfl rfl ?_
  refine zw_bipush 8 15 f129_13 rfl (by decide +kernel) ?_
  refine zw_ic_ge_f 18 45 f129_15 (by decide +kernel) rfl (by decide +kernel) ?_
  refine zw_aload_n 19 f129_18 rfl rfl ?_
  refine zw_getfield 22 f129_19 rfl g129_77_12 (mb_52 x) rfl ?_
  refine zw_iload_n 23 f129_22 rfl rfl ?_
  refine zw_iconst 0 24 f129_23 rfl (by decide +kernel) ?_
  refine zw_iastoreS 5 25 f129_24 rfl (mb_72 x) (by decide +kernel) (by decide +kernel) (by decide +kernel) rfl ?_
  refine zw_aload_n 26 f129_25 rfl rfl ?_
  refine zw_getfield 29 f129_26 rfl g129_80_12 (mb_52 x) rfl ?_
  refine zw_iload_n 30 f129_29 rfl rfl ?_
  refine zw_iconst 0 31 f129_30 rfl (by decide +kernel) ?_
  refine zw_iastoreS 5 32 f129_31 rfl (mb_73 x) (by decide +kernel) (by decide +kernel) (by decide +kernel) rfl ?_
  refine zw_aload_n 33 f129_32 rfl rfl ?_
  refine zw_getfield 36 f129_33 rfl g129_83_12 (mb_52 x) rfl ?_
  refine zw_iload_n 37 f129_36 rfl rfl ?_
  refine zw_iconst 0 38 f129_37 rfl (by decide +kernel) ?_
  refine zw_iastoreS 5 39 f129_38 rfl (mb_74 x) (by decide +kernel) (by decide +kernel) (by decide +kernel) rfl ?_
  refine zw_iinc 6 [(1, .int 6), (0, .ref 52)] 42 f129_39 rfl rfl (by decide +kernel) (by decide +kernel) rfl ?_
  refine zw_goto 12 f129_42 (by decide +kernel) ?_
  refine zw_iload_n 13 f129_12 rfl rfl ?_
  refine zw_bipush 8 15 f129_13 rfl (by decide +kernel) ?_
  refine zw_ic_ge_f 18 45 f129_15 (by decide +kernel) rfl (by decide +kernel) ?_
  refine zw_aload_n 19 f129_18 rfl rfl ?_
  refine zw_getfield 22 f129_19 rfl g129_77_12 (mb_52 x) rfl ?_
  refine zw_iload_n 23 f129_22 rfl rfl ?_
  refine zw_iconst 0 24 f129_23 rfl (by decide +kernel) ?_
  refine zw_iastoreS 6 25 f129_24 rfl (mb_72 x) (by decide +kernel) (by decide +kernel) (by decide +kernel) rfl ?_
  refine zw_aload_n 26 f129_25 rfl rfl ?_
  refine zw_getfield 29 f129_26 rfl g129_80_12 (mb_52 x) rfl ?_
  refine zw_iload_n 30 f129_29 rfl rfl ?_
  refine zw_iconst 0 31 f129_30 rfl (by decide +kernel) ?_
  refine zw_iastoreS 6 32 f129_31 rfl (mb_73 x) (by decide +kernel) (by decide +kernel) (by decide +kernel) rfl ?_
  refine zw_aload_n 33 f129_32 rfl rfl ?_
  refine zw_getfield 36 f129_33 rfl g129_83_12 (mb_52 x) rfl ?_
  refine zw_iload_n 37 f129_36 rfl rfl ?_
  refine zw_iconst 0 38 f129_37 rfl (by decide +kernel) ?_
  refine zw_iastoreS 6 39 f129_38 rfl (mb_74 x) (by decide +kernel) (by decide +kernel) (by decide +kernel) rfl ?_
  refine zw_iinc 7 [(1, .int 7), (0, .ref 52)] 42 f129_39 rfl rfl (by decide +kernel) (by decide +kernel) rfl ?_
  refine zw_goto 12 f129_42 (by decide +kernel) ?_
  refine zw_iload_n 13 f129_12 rfl rfl ?_
  refine zw_bipush 8 15 f129_13 rfl (by decide +kernel) ?_
  refine zw_ic_ge_f 18 45 f129_15 (by decide +kernel) rfl (by decide +kernel) ?_
  refine zw_aload_n 19 f129_18 rfl rfl ?_
  refine zw_getfield 22 f129_19 rfl g129_77_12 (mb_52 x) rfl ?_
  refine zw_iload_n 23 f129_22 rfl rfl ?_
  refine zw_iconst 0 24 f129_23 rfl (by decide +kernel) ?_
  refine zw_iastoreS 7 25 f129_24 rfl (mb_72 x) (by decide +kernel) (by decide +kernel) (by decide +kernel) rfl ?_
  refine zw_aload_n 26 f129_25 rfl rfl ?_
  refine zw_getfield 29 f129_26 rfl g129_80_12 (mb_52 x) rfl ?_
  refine zw_iload_n 30 f129_29 rfl rfl ?_
  refine zw_iconst 0 31 f129_30 rfl (by decide +kernel) ?_
  refine zw_iastoreS 7 32 f129_31 rfl (mb_73 x) (by decide +kernel) (by decide +kernel) (by decide +kernel) rfl ?_
  refine zw_aload_n 33 f129_32 rfl rfl ?_
  refine zw_getfield 36 f129_33 rfl g129_83_12 (mb_52 x) rfl ?_
  refine zw_iload_n 37 f129_36 rfl rfl ?_
  refine zw_iconst 0 38 f129_37 rfl (by decide +kernel) ?_
  refine zw_iastoreS 7 39 f129_38 rfl (mb_74 x) (by decide +kernel) (by decide +kernel) (by decide +kernel) rfl ?_
  refine zw_iinc 8 [(1, .int 8), (0, .ref 52)] 42 f129_39 rfl rfl (by decide +kernel) (by decide +kernel) rfl ?_
  refine zw_goto 12 f129_42 (by decide +kernel) ?_
  refine zw_iload_n 13 f129_12 rfl rfl ?_
  refine zw_bipush 8 15 f129_13 rfl (by decide +kernel) ?_
  refine zw_ic_ge_t 45 f129_15 (by decide +kernel) (by decide +kernel) ?_
  refine zw_iconst 0 46 f129_45 rfl (by decide +kernel) ?_
  refine zw_istore_n [(1, .int 0), (0, .ref 52)] 47 f129_46 rfl (by decide +kernel) rfl ?_
  refine zw_iload_n 48 f129_47 rfl rfl ?_
  refine zw_aload_n 49 f129_48 rfl rfl ?_
  refine zw_getfield 52 f129_49 rfl g129_121_12 (mb_52 x) rfl ?_
  refine zw_ic_ge_t 135 f129_52 (by decide +kernel) (by decide +kernel) ?_
  refine zw_iconst 0 136 f129_135 rfl (by decide +kernel) ?_
  refine zw_istore_n [(1, .int 0), (0, .ref 52)] 137 f129_136 rfl (by decide +kernel) rfl ?_
  refine zw_iload_n 138 f129_137 rfl rfl ?_
  refine zw_aload_n 139 f129_138 rfl rfl ?_
  refine zw_getfield 142 f129_139 rfl g129_114_12 (mb_52 x) rfl ?_
  refine zw_ic_ge_t 156 f129_142 (by decide +kernel) (by decide +kernel) ?_
  refine zw_vreturn f129_156 r129 u129 ⟨rfl, ?_⟩
  refine zw_aload_n 5 f158_4 rfl rfl ?_
  refine zw_iload_n 6 f158_5 rfl rfl ?_
  refine zw_virtual_i 9 0 0 [.ref 52, .int a] [(0, .ref 52), (1, .int a)] f158_6 rfl n158_218 k158_218_12 rfl (mb_52 x) (by decide +kernel) (Nat.le_of_ble_eq_true rfl) rfl rfl (by decide +kernel) (by decide +kernel) rfl (Nat.le_of_ble_eq_true rfl) rfl ?_
  refine zw_iload_n 1 f124_0 rfl rfl ?_
  refine zw_iconst 0 2 f124_1 rfl (by decide +kernel) ?_
  refine zw_aload_n 3 f124_2 rfl rfl ?_
  refine zw_getfield 6 f124_3 rfl g124_121_12 (mb_52 x) rfl ?_
  refine zw_iconst 1 7 f124_6 rfl (by decide +kernel) ?_
  refine zw_isub (-1) 8 f124_7 rfl (by decide +kernel) ?_
  refine zw_static_i 11 0 0 [.int a, .int 0, .int (-1)] [] [(0, .int a), (1, .int 0), (2, .int (-1))] f124_8 rfl k124_117_99 rfl (by decide +kernel) (Nat.le_of_ble_eq_true rfl) (Nat.le_of_ble_eq_true rfl) rfl rfl (by decide +kernel) (by decide +kernel) rfl (Nat.le_of_ble_eq_true rfl) rfl ?_
  refine zw_iload_n 1 f120_0 rfl rfl ?_
  refine zw_iload_n 2 f120_1 rfl rfl ?_
  refine zw_ic_lt 5 14 f120_2 (by decide +kernel) rfl (fun hc1 => ?_) (fun hc1 => ?_)
  · refine zw_iconst 0 15 f120_14 rfl (by decide +kernel) ?_
    refine zw_zreturn f120_15 r120 u120 (by decide +kernel) ⟨_, rfl, ?_⟩
    refine zw_zreturn f124_11 r124 u124 (by decide +kernel) ⟨_, rfl, ?_⟩
    refine zw_if_eq_t 21 f158_9 (by decide +kernel) (by decide +kernel) ?_
    refine zw_iconst (-1) 22 f158_21 rfl (by decide +kernel) ?_
    refine zw_ireturn f158_22 r158 u158 ?_
    exact rfl
  · refine zw_iload_n 6 f120_5 rfl rfl ?_
    refine zw_iload_n 7 f120_6 rfl rfl ?_
    refine zw_ic_gt_t 14 f120_7 (by decide +kernel) (zl_m1 hc1) ?_
    refine zw_iconst 0 15 f120_14 rfl (by decide +kernel) ?_
    refine zw_zreturn f120_15 r120 u120 (by decide +kernel) ⟨_, rfl, ?_⟩
    refine zw_zreturn f124_11 r124 u124 (by decide +kernel) ⟨_, rfl, ?_⟩
    refine zw_if_eq_t 21 f158_9 (by decide +kernel) (by decide +kernel) ?_
    refine zw_iconst (-1) 22 f158_21 rfl (by decide +kernel) ?_
    refine zw_ireturn f158_22 r158 u158 ?_
    exact rfl
set_option maxRecDepth 100000 in
set_option maxHeartbeats 0 in
theorem m_flood_r (ro : UInt32 → Nat × (Nat → Int32)) (x : Nat → va_E) (a : Int32) : zWp ro 159 0 [(0, .ref 52), (1, .int a)] [] (hMx x) 0 0 (fun r _ => r = some (.int (-1))) := by
  refine zw_aload_n 1 f159_0 rfl rfl ?_
  refine zw_virtual_v 4 0 0 [.ref 52] [(0, .ref 52)] f159_1 rfl n159_151 k159_151_12 rfl (mb_52 x) (by decide +kernel) (Nat.le_of_ble_eq_true rfl) rfl rfl (by decide +kernel) (by decide +kernel) rfl (Nat.le_of_ble_eq_true rfl) rfl ?_
  refine zw_aload_n 1 f129_0 rfl rfl ?_
  refine zw_iconst 0 2 f129_1 rfl (by decide +kernel) ?_
  refine zw_putfieldS 5 f129_2 rfl g129_127_12 (mb_52 x) rfl rfl (by decide +kernel) ?_
  refine zw_aload_n 6 f129_5 rfl rfl ?_
  refine zw_iconst 0 7 f129_6 rfl (by decide +kernel) ?_
  refine zw_putfieldS 10 f129_7 rfl g129_124_12 (mb_52 x) rfl rfl (by decide +kernel) ?_
  refine zw_iconst 0 11 f129_10 rfl (by decide +kernel) ?_
  refine zw_istore_n [(1, .int 0), (0, .ref 52)] 12 f129_11 rfl (by decide +kernel) rfl ?_
  refine zw_iload_n 13 f129_12 rfl rfl ?_
  refine zw_bipush 8 15 f129_13 rfl (by decide +kernel) ?_
  refine zw_ic_ge_f 18 45 f129_15 (by decide +kernel) rfl (by decide +kernel) ?_
  refine zw_aload_n 19 f129_18 rfl rfl ?_
  refine zw_getfield 22 f129_19 rfl g129_77_12 (mb_52 x) rfl ?_
  refine zw_iload_n 23 f129_22 rfl rfl ?_
  refine zw_iconst 0 24 f129_23 rfl (by decide +kernel) ?_
  refine zw_iastoreS 0 25 f129_24 rfl (mb_72 x) (by decide +kernel) (by decide +kernel) (by decide +kernel) rfl ?_
  refine zw_aload_n 26 f129_25 rfl rfl ?_
  refine zw_getfield 29 f129_26 rfl g129_80_12 (mb_52 x) rfl ?_
  refine zw_iload_n 30 f129_29 rfl rfl ?_
  refine zw_iconst 0 31 f129_30 rfl (by decide +kernel) ?_
  refine zw_iastoreS 0 32 f129_31 rfl (mb_73 x) (by decide +kernel) (by decide +kernel) (by decide +kernel) rfl ?_
  refine zw_aload_n 33 f129_32 rfl rfl ?_
  refine zw_getfield 36 f129_33 rfl g129_83_12 (mb_52 x) rfl ?_
  refine zw_iload_n 37 f129_36 rfl rfl ?_
  refine zw_iconst 0 38 f129_37 rfl (by decide +kernel) ?_
  refine zw_iastoreS 0 39 f129_38 rfl (mb_74 x) (by decide +kernel) (by decide +kernel) (by decide +kernel) rfl ?_
  refine zw_iinc 1 [(1, .int 1), (0, .ref 52)] 42 f129_39 rfl rfl (by decide +kernel) (by decide +kernel) rfl ?_
  refine zw_goto 12 f129_42 (by decide +kernel) ?_
  refine zw_iload_n 13 f129_12 rfl rfl ?_
  refine zw_bipush 8 15 f129_13 rfl (by decide +kernel) ?_
  refine zw_ic_ge_f 18 45 f129_15 (by decide +kernel) rfl (by decide +kernel) ?_
  refine zw_aload_n 19 f129_18 rfl rfl ?_
  refine zw_getfield 22 f129_19 rfl g129_77_12 (mb_52 x) rfl ?_
  refine zw_iload_n 23 f129_22 rfl rfl ?_
  refine zw_iconst 0 24 f129_23 rfl (by decide +kernel) ?_
  refine zw_iastoreS 1 25 f129_24 rfl (mb_72 x) (by decide +kernel) (by decide +kernel) (by decide +kernel) rfl ?_
  refine zw_aload_n 26 f129_25 rfl rfl ?_
  refine zw_getfield 29 f129_26 rfl g129_80_12 (mb_52 x) rfl ?_
  refine zw_iload_n 30 f129_29 rfl rfl ?_
  refine zw_iconst 0 31 f129_30 rfl (by decide +kernel) ?_
  refine zw_iastoreS 1 32 f129_31 rfl (mb_73 x) (by decide +kernel) (by decide +kernel) (by decide +kernel) rfl ?_
  refine zw_aload_n 33 f129_32 rfl rfl ?_
  refine zw_getfield 36 f129_33 rfl g129_83_12 (mb_52 x) rfl ?_
  refine zw_iload_n 37 f129_36 rfl rfl ?_
  refine zw_iconst 0 38 f129_37 rfl (by decide +kernel) ?_
  refine zw_iastoreS 1 39 f129_38 rfl (mb_74 x) (by decide +kernel) (by decide +kernel) (by decide +kernel) rfl ?_
  refine zw_iinc 2 [(1, .int 2), (0, .ref 52)] 42 f129_39 rfl rfl (by decide +kernel) (by decide +kernel) rfl ?_
  refine zw_goto 12 f129_42 (by decide +kernel) ?_
  refine zw_iload_n 13 f129_12 rfl rfl ?_
  refine zw_bipush 8 15 f129_13 rfl (by decide +kernel) ?_
  refine zw_ic_ge_f 18 45 f129_15 (by decide +kernel) rfl (by decide +kernel) ?_
  refine zw_aload_n 19 f129_18 rfl rfl ?_
  refine zw_getfield 22 f129_19 rfl g129_77_12 (mb_52 x) rfl ?_
  refine zw_iload_n 23 f129_22 rfl rfl ?_
  refine zw_iconst 0 24 f129_23 rfl (by decide +kernel) ?_
  refine zw_iastoreS 2 25 f129_24 rfl (mb_72 x) (by decide +kernel) (by decide +kernel) (by decide +kernel) rfl ?_
  refine zw_aload_n 26 f129_25 rfl rfl ?_
  refine zw_getfield 29 f129_26 rfl g129_80_12 (mb_52 x) rfl ?_
  refine zw_iload_n 30 f129_29 rfl rfl ?_
  refine zw_iconst 0 31 f129_30 rfl (by decide +kernel) ?_
  refine zw_iastoreS 2 32 f129_31 rfl (mb_73 x) (by decide +kernel) (by decide +kernel) (by decide +kernel) rfl ?_
  refine zw_aload_n 33 f129_32 rfl rfl ?_
  refine zw_getfield 36 f129_33 rfl g129_83_12 (mb_52 x) rfl ?_
  refine zw_iload_n 37 f129_36 rfl rfl ?_
  refine zw_iconst 0 38 f129_37 rfl (by decide +kernel) ?_
  refine zw_iastoreS 2 39 f129_38 rfl (mb_74 x) (by decide +kernel) (by decide +kernel) (by decide +kernel) rfl ?_
  refine zw_iinc 3 [(1, .int 3), (0, .ref 52)] 42 f129_39 rfl rfl (by decide +kernel) (by decide +kernel) rfl ?_
  refine zw_goto 12 f129_42 (by decide +kernel) ?_
  refine zw_iload_n 13 f129_12 rfl rfl ?_
  refine zw_bipush 8 15 f129_13 rfl (by decide +kernel) ?_
  refine zw_ic_ge_f 18 45 f129_15 (by decide +kernel) rfl (by decide +kernel) ?_
  refine zw_aload_n 19 f129_18 rfl rfl ?_
  refine zw_getfield 22 f129_19 rfl g129_77_12 (mb_52 x) rfl ?_
  refine zw_iload_n 23 f129_22 rfl rfl ?_
  refine zw_iconst 0 24 f129_23 rfl (by decide +kernel) ?_
  refine zw_iastoreS 3 25 f129_24 rfl (mb_72 x) (by decide +kernel) (by decide +kernel) (by decide +kernel) rfl ?_
  refine zw_aload_n 26 f129_25 rfl rfl ?_
  refine zw_getfield 29 f129_26 rfl g129_80_12 (mb_52 x) rfl ?_
  refine zw_iload_n 30 f129_29 rfl rfl ?_
  refine zw_iconst 0 31 f129_30 rfl (by decide +kernel) ?_
  refine zw_iastoreS 3 32 f129_31 rfl (mb_73 x) (by decide +kernel) (by decide +kernel) (by decide +kernel) rfl ?_
  refine zw_aload_n 33 f129_32 rfl rfl ?_
  refine zw_getfield 36 f129_33 rfl g129_83_12 (mb_52 x) rfl ?_
  refine zw_iload_n 37 f129_36 rfl rfl ?_
  refine zw_iconst 0 38 f129_37 rfl (by decide +kernel) ?_
  refine zw_iastoreS 3 39 f129_38 rfl (mb_74 x) (by decide +kernel) (by decide +kernel) (by decide +kernel) rfl ?_
  refine zw_iinc 4 [(1, .int 4), (0, .ref 52)] 42 f129_39 rfl rfl (by decide +kernel) (by decide +kernel) rfl ?_
  refine zw_goto 12 f129_42 (by decide +kernel) ?_
  refine zw_iload_n 13 f129_12 rfl rfl ?_
  refine zw_bipush 8 15 f129_13 rfl (by decide +kernel) ?_
  refine zw_ic_ge_f 18 45 f129_15 (by decide +kernel) rfl (by decide +kernel) ?_
  refine zw_aload_n 19 f129_18 rfl rfl ?_
  refine zw_getfield 22 f129_19 rfl g129_77_12 (mb_52 x) rfl ?_
  refine zw_iload_n 23 f129_22 rfl rfl ?_
  refine zw_iconst 0 24 f129_23 rfl (by decide +kernel) ?_
  refine zw_iastoreS 4 25 f129_24 rfl (mb_72 x) (by decide +kernel) (by decide +kernel) (by decide +kernel) rfl ?_
  refine zw_aload_n 26 f129_25 rfl rfl ?_
  refine zw_getfield 29 f129_26 rfl g129_80_12 (mb_52 x) rfl ?_
  refine zw_iload_n 30 f129_29 rfl rfl ?_
  refine zw_iconst 0 31 f129_30 rfl (by decide +kernel) ?_
  refine zw_iastoreS 4 32 f129_31 rfl (mb_73 x) (by decide +kernel) (by decide +kernel) (by decide +kernel) rfl ?_
  refine zw_aload_n 33 f129_32 rfl rfl ?_
  refine zw_getfield 36 f129_33 rfl g129_83_12 (mb_52 x) rfl ?_
  refine zw_iload_n 37 f129_36 rfl rfl ?_
  refine zw_iconst 0 38 f129_37 rfl (by decide +kernel) ?_
  refine zw_iastoreS 4 39 f129_38 rfl (mb_74 x) (by decide +kernel) (by decide +kernel) (by decide +kernel) rfl ?_
  refine zw_iinc 5 [(1, .int 5), (0, .ref 52)] 42 f129_39 rfl rfl (by decide +kernel) (by decide +kernel) rfl ?_
  refine zw_goto 12 f129_42 (by decide +kernel) ?_
  refine zw_iload_n 13 f129_12 rfl rfl ?_
  refine zw_bipush 8 15 f129_13 rfl (by decide +kernel) ?_
  refine zw_ic_ge_f 18 45 f129_15 (by decide +kernel) rfl (by decide +kernel) ?_
  refine zw_aload_n 19 f129_18 rfl rfl ?_
  refine zw_getfield 22 f129_19 rfl g129_77_12 (mb_52 x) rfl ?_
  refine zw_iload_n 23 f129_22 rfl rfl ?_
  refine zw_iconst 0 24 f129_23 rfl (by decide +kernel) ?_
  refine zw_iastoreS 5 25 f129_24 rfl (mb_72 x) (by decide +kernel) (by decide +kernel) (by decide +kernel) rfl ?_
  refine zw_aload_n 26 f129_25 rfl rfl ?_
  refine zw_getfield 29 f129_26 rfl g129_80_12 (mb_52 x) rfl ?_
  refine zw_iload_n 30 f129_29 rfl rfl ?_
  refine zw_iconst 0 31 f129_30 rfl (by decide +kernel) ?_
  refine zw_iastoreS 5 32 f129_31 rfl (mb_73 x) (by decide +kernel) (by decide +kernel) (by decide +kernel) rfl ?_
  refine zw_aload_n 33 f129_32 rfl rfl ?_
  refine zw_getfield 36 f129_33 rfl g129_83_12 (mb_52 x) rfl ?_
  refine zw_iload_n 37 f129_36 rfl rfl ?_
  refine zw_iconst 0 38 f129_37 rfl (by decide +kernel) ?_
  refine zw_iastoreS 5 39 f129_38 rfl (mb_74 x) (by decide +kernel) (by decide +kernel) (by decide +kernel) rfl ?_
  refine zw_iinc 6 [(1, .int 6), (0, .ref 52)] 42 f129_39 rfl rfl (by decide +kernel) (by decide +kernel) rfl ?_
  refine zw_goto 12 f129_42 (by decide +kernel) ?_
  refine zw_iload_n 13 f129_12 rfl rfl ?_
  refine zw_bipush 8 15 f129_13 rfl (by decide +kernel) ?_
  refine zw_ic_ge_f 18 45 f129_15 (by decide +kernel) rfl (by decide +kernel) ?_
  refine zw_aload_n 19 f129_18 rfl rfl ?_
  refine zw_getfield 22 f129_19 rfl g129_77_12 (mb_52 x) rfl ?_
  refine zw_iload_n 23 f129_22 rfl rfl ?_
  refine zw_iconst 0 24 f129_23 rfl (by decide +kernel) ?_
  refine zw_iastoreS 6 25 f129_24 rfl (mb_72 x) (by decide +kernel) (by decide +kernel) (by decide +kernel) rfl ?_
  refine zw_aload_n 26 f129_25 rfl rfl ?_
  refine zw_getfield 29 f129_26 rfl g129_80_12 (mb_52 x) rfl ?_
  refine zw_iload_n 30 f129_29 rfl rfl ?_
  refine zw_iconst 0 31 f129_30 rfl (by decide +kernel) ?_
  refine zw_iastoreS 6 32 f129_31 rfl (mb_73 x) (by decide +kernel) (by decide +kernel) (by decide +kernel) rfl ?_
  refine zw_aload_n 33 f129_32 rfl rfl ?_
  refine zw_getfield 36 f129_33 rfl g129_83_12 (mb_52 x) rfl ?_
  refine zw_iload_n 37 f129_36 rfl rfl ?_
  refine zw_iconst 0 38 f129_37 rfl (by decide +kernel) ?_
  refine zw_iastoreS 6 39 f129_38 rfl (mb_74 x) (by decide +kernel) (by decide +kernel) (by decide +kernel) rfl ?_
  refine zw_iinc 7 [(1, .int 7), (0, .ref 52)] 42 f129_39 rfl rfl (by decide +kernel) (by decide +kernel) rfl ?_
  refine zw_goto 12 f129_42 (by decide +kernel) ?_
  refine zw_iload_n 13 f129_12 rfl rfl ?_
  refine zw_bipush 8 15 f129_13 rfl (by decide +kernel) ?_
  refine zw_ic_ge_f 18 45 f129_15 (by decide +kernel) rfl (by decide +kernel) ?_
  refine zw_aload_n 19 f129_18 rfl rfl ?_
  refine zw_getfield 22 f129_19 rfl g129_77_12 (mb_52 x) rfl ?_
  refine zw_iload_n 23 f129_22 rfl rfl ?_
  refine zw_iconst 0 24 f129_23 rfl (by decide +kernel) ?_
  refine zw_iastoreS 7 25 f129_24 rfl (mb_72 x) (by decide +kernel) (by decide +kernel) (by decide +kernel) rfl ?_
  refine zw_aload_n 26 f129_25 rfl rfl ?_
  refine zw_getfield 29 f129_26 rfl g129_80_12 (mb_52 x) rfl ?_
  refine zw_iload_n 30 f129_29 rfl rfl ?_
  refine zw_iconst 0 31 f129_30 rfl (by decide +kernel) ?_
  refine zw_iastoreS 7 32 f129_31 rfl (mb_73 x) (by decide +kernel) (by decide +kernel) (by decide +kernel) rfl ?_
  refine zw_aload_n 33 f129_32 rfl rfl ?_
  refine zw_getfield 36 f129_33 rfl g129_83_12 (mb_52 x) rfl ?_
  refine zw_iload_n 37 f129_36 rfl rfl ?_
  refine zw_iconst 0 38 f129_37 rfl (by decide +kernel) ?_
  refine zw_iastoreS 7 39 f129_38 rfl (mb_74 x) (by decide +kernel) (by decide +kernel) (by decide +kernel) rfl ?_
  refine zw_iinc 8 [(1, .int 8), (0, .ref 52)] 42 f129_39 rfl rfl (by decide +kernel) (by decide +kernel) rfl ?_
  refine zw_goto 12 f129_42 (by decide +kernel) ?_
  refine zw_iload_n 13 f129_12 rfl rfl ?_
  refine zw_bipush 8 15 f129_13 rfl (by decide +kernel) ?_
  refine zw_ic_ge_t 45 f129_15 (by decide +kernel) (by decide +kernel) ?_
  refine zw_iconst 0 46 f129_45 rfl (by decide +kernel) ?_
  refine zw_istore_n [(1, .int 0), (0, .ref 52)] 47 f129_46 rfl (by decide +kernel) rfl ?_
  refine zw_iload_n 48 f129_47 rfl rfl ?_
  refine zw_aload_n 49 f129_48 rfl rfl ?_
  refine zw_getfield 52 f129_49 rfl g129_121_12 (mb_52 x) rfl ?_
  refine zw_ic_ge_t 135 f129_52 (by decide +kernel) (by decide +kernel) ?_
  refine zw_iconst 0 136 f129_135 rfl (by decide +kernel) ?_
  refine zw_istore_n [(1, .int 0), (0, .ref 52)] 137 f129_136 rfl (by decide +kernel) rfl ?_
  refine zw_iload_n 138 f129_137 rfl rfl ?_
  refine zw_aload_n 139 f129_138 rfl rfl ?_
  refine zw_getfield 142 f129_139 rfl g129_114_12 (mb_52 x) rfl ?_
  refine zw_ic_ge_t 156 f129_142 (by decide +kernel) (by decide +kernel) ?_
  refine zw_vreturn f129_156 r129 u129 ⟨rfl, ?_⟩
  refine zw_aload_n 5 f159_4 rfl rfl ?_
  refine zw_iload_n 6 f159_5 rfl rfl ?_
  refine zw_virtual_i 9 0 0 [.ref 52, .int a] [(0, .ref 52), (1, .int a)] f159_6 rfl n159_215 k159_215_12 rfl (mb_52 x) (by decide +kernel) (Nat.le_of_ble_eq_true rfl) rfl rfl (by decide +kernel) (by decide +kernel) rfl (Nat.le_of_ble_eq_true rfl) rfl ?_
  refine zw_iload_n 1 f123_0 rfl rfl ?_
  refine zw_iconst 0 2 f123_1 rfl (by decide +kernel) ?_
  refine zw_aload_n 3 f123_2 rfl rfl ?_
  refine zw_getfield 6 f123_3 rfl g123_114_12 (mb_52 x) rfl ?_
  refine zw_iconst 1 7 f123_6 rfl (by decide +kernel) ?_
  refine zw_isub (-1) 8 f123_7 rfl (by decide +kernel) ?_
  refine zw_static_i 11 0 0 [.int a, .int 0, .int (-1)] [] [(0, .int a), (1, .int 0), (2, .int (-1))] f123_8 rfl k123_117_99 rfl (by decide +kernel) (Nat.le_of_ble_eq_true rfl) (Nat.le_of_ble_eq_true rfl) rfl rfl (by decide +kernel) (by decide +kernel) rfl (Nat.le_of_ble_eq_true rfl) rfl ?_
  refine zw_iload_n 1 f120_0 rfl rfl ?_
  refine zw_iload_n 2 f120_1 rfl rfl ?_
  refine zw_ic_lt 5 14 f120_2 (by decide +kernel) rfl (fun hc1 => ?_) (fun hc1 => ?_)
  · refine zw_iconst 0 15 f120_14 rfl (by decide +kernel) ?_
    refine zw_zreturn f120_15 r120 u120 (by decide +kernel) ⟨_, rfl, ?_⟩
    refine zw_zreturn f123_11 r123 u123 (by decide +kernel) ⟨_, rfl, ?_⟩
    refine zw_if_eq_t 21 f159_9 (by decide +kernel) (by decide +kernel) ?_
    refine zw_iconst (-1) 22 f159_21 rfl (by decide +kernel) ?_
    refine zw_ireturn f159_22 r159 u159 ?_
    exact rfl
  · refine zw_iload_n 6 f120_5 rfl rfl ?_
    refine zw_iload_n 7 f120_6 rfl rfl ?_
    refine zw_ic_gt_t 14 f120_7 (by decide +kernel) (zl_m1 hc1) ?_
    refine zw_iconst 0 15 f120_14 rfl (by decide +kernel) ?_
    refine zw_zreturn f120_15 r120 u120 (by decide +kernel) ⟨_, rfl, ?_⟩
    refine zw_zreturn f123_11 r123 u123 (by decide +kernel) ⟨_, rfl, ?_⟩
    refine zw_if_eq_t 21 f159_9 (by decide +kernel) (by decide +kernel) ?_
    refine zw_iconst (-1) 22 f159_21 rfl (by decide +kernel) ?_
    refine zw_ireturn f159_22 r159 u159 ?_
    exact rfl
set_option maxRecDepth 100000 in
set_option maxHeartbeats 0 in
theorem m_told_r (ro : UInt32 → Nat × (Nat → Int32)) (x : Nat → va_E) (a b : Int32) : zWp ro 160 0 [(0, .ref 52), (1, .int a), (2, .int b)] [] (hMx x) 0 0 (fun r _ => r = some (.int (-1))) := by
  refine zw_aload_n 1 f160_0 rfl rfl ?_
  refine zw_iload_n 2 f160_1 rfl rfl ?_
  refine zw_virtual_i 5 0 0 [.ref 52, .int a] [(0, .ref 52), (1, .int a)] f160_2 rfl n160_215 k160_215_12 rfl (mb_52 x) (by decide +kernel) (Nat.le_of_ble_eq_true rfl) rfl rfl (by decide +kernel) (by decide +kernel) rfl (Nat.le_of_ble_eq_true rfl) rfl ?_
  refine zw_iload_n 1 f123_0 rfl rfl ?_
  refine zw_iconst 0 2 f123_1 rfl (by decide +kernel) ?_
  refine zw_aload_n 3 f123_2 rfl rfl ?_
  refine zw_getfield 6 f123_3 rfl g123_114_12 (mb_52 x) rfl ?_
  refine zw_iconst 1 7 f123_6 rfl (by decide +kernel) ?_
  refine zw_isub (-1) 8 f123_7 rfl (by decide +kernel) ?_
  refine zw_static_i 11 0 0 [.int a, .int 0, .int (-1)] [] [(0, .int a), (1, .int 0), (2, .int (-1))] f123_8 rfl k123_117_99 rfl (by decide +kernel) (Nat.le_of_ble_eq_true rfl) (Nat.le_of_ble_eq_true rfl) rfl rfl (by decide +kernel) (by decide +kernel) rfl (Nat.le_of_ble_eq_true rfl) rfl ?_
  refine zw_iload_n 1 f120_0 rfl rfl ?_
  refine zw_iload_n 2 f120_1 rfl rfl ?_
  refine zw_ic_lt 5 14 f120_2 (by decide +kernel) rfl (fun hc1 => ?_) (fun hc1 => ?_)
  · refine zw_iconst 0 15 f120_14 rfl (by decide +kernel) ?_
    refine zw_zreturn f120_15 r120 u120 (by decide +kernel) ⟨_, rfl, ?_⟩
    refine zw_zreturn f123_11 r123 u123 (by decide +kernel) ⟨_, rfl, ?_⟩
    refine zw_if_ne_f 8 10 f160_5 (by decide +kernel) rfl (by decide +kernel) ?_
    refine zw_iconst (-1) 9 f160_8 rfl (by decide +kernel) ?_
    refine zw_ireturn f160_9 r160 u160 ?_
    exact rfl
  · refine zw_iload_n 6 f120_5 rfl rfl ?_
    refine zw_iload_n 7 f120_6 rfl rfl ?_
    refine zw_ic_gt_t 14 f120_7 (by decide +kernel) (zl_m1 hc1) ?_
    refine zw_iconst 0 15 f120_14 rfl (by decide +kernel) ?_
    refine zw_zreturn f120_15 r120 u120 (by decide +kernel) ⟨_, rfl, ?_⟩
    refine zw_zreturn f123_11 r123 u123 (by decide +kernel) ⟨_, rfl, ?_⟩
    refine zw_if_ne_f 8 10 f160_5 (by decide +kernel) rfl (by decide +kernel) ?_
    refine zw_iconst (-1) 9 f160_8 rfl (by decide +kernel) ?_
    refine zw_ireturn f160_9 r160 u160 ?_
    exact rfl
set_option maxRecDepth 100000 in
set_option maxHeartbeats 0 in
theorem m_pipeTold_r (ro : UInt32 → Nat × (Nat → Int32)) (x : Nat → va_E) (a b : Int32) : zWp ro 161 0 [(0, .ref 52), (1, .int a), (2, .int b)] [] (hMx x) 0 0 (fun r _ => r = some (.int (-2))) := by
  refine zw_aload_n 1 f161_0 rfl rfl ?_
  refine zw_iload_n 2 f161_1 rfl rfl ?_
  refine zw_virtual_i 5 0 0 [.ref 52, .int a] [(0, .ref 52), (1, .int a)] f161_2 rfl n161_218 k161_218_12 rfl (mb_52 x) (by decide +kernel) (Nat.le_of_ble_eq_true rfl) rfl rfl (by decide +kernel) (by decide +kernel) rfl (Nat.le_of_ble_eq_true rfl) rfl ?_
  refine zw_iload_n 1 f124_0 rfl rfl ?_
  refine zw_iconst 0 2 f124_1 rfl (by decide +kernel) ?_
  refine zw_aload_n 3 f124_2 rfl rfl ?_
  refine zw_getfield 6 f124_3 rfl g124_121_12 (mb_52 x) rfl ?_
  refine zw_iconst 1 7 f124_6 rfl (by decide +kernel) ?_
  refine zw_isub (-1) 8 f124_7 rfl (by decide +kernel) ?_
  refine zw_static_i 11 0 0 [.int a, .int 0, .int (-1)] [] [(0, .int a), (1, .int 0), (2, .int (-1))] f124_8 rfl k124_117_99 rfl (by decide +kernel) (Nat.le_of_ble_eq_true rfl) (Nat.le_of_ble_eq_true rfl) rfl rfl (by decide +kernel) (by decide +kernel) rfl (Nat.le_of_ble_eq_true rfl) rfl ?_
  refine zw_iload_n 1 f120_0 rfl rfl ?_
  refine zw_iload_n 2 f120_1 rfl rfl ?_
  refine zw_ic_lt 5 14 f120_2 (by decide +kernel) rfl (fun hc1 => ?_) (fun hc1 => ?_)
  · refine zw_iconst 0 15 f120_14 rfl (by decide +kernel) ?_
    refine zw_zreturn f120_15 r120 u120 (by decide +kernel) ⟨_, rfl, ?_⟩
    refine zw_zreturn f124_11 r124 u124 (by decide +kernel) ⟨_, rfl, ?_⟩
    refine zw_if_ne_f 8 11 f161_5 (by decide +kernel) rfl (by decide +kernel) ?_
    refine zw_bipush (-2) 10 f161_8 rfl (by decide +kernel) ?_
    refine zw_ireturn f161_10 r161 u161 ?_
    exact rfl
  · refine zw_iload_n 6 f120_5 rfl rfl ?_
    refine zw_iload_n 7 f120_6 rfl rfl ?_
    refine zw_ic_gt_t 14 f120_7 (by decide +kernel) (zl_m1 hc1) ?_
    refine zw_iconst 0 15 f120_14 rfl (by decide +kernel) ?_
    refine zw_zreturn f120_15 r120 u120 (by decide +kernel) ⟨_, rfl, ?_⟩
    refine zw_zreturn f124_11 r124 u124 (by decide +kernel) ⟨_, rfl, ?_⟩
    refine zw_if_ne_f 8 11 f161_5 (by decide +kernel) rfl (by decide +kernel) ?_
    refine zw_bipush (-2) 10 f161_8 rfl (by decide +kernel) ?_
    refine zw_ireturn f161_10 r161 u161 ?_
    exact rfl
set_option maxRecDepth 100000 in
set_option maxHeartbeats 0 in
theorem m_count_k0 (ro : UInt32 → Nat × (Nat → Int32)) (x : Nat → va_E) : zWp ro 162 0 [(0, .ref 52), (1, .int 0)] [] (hMx x) 0 0 (fun r _ => r = some (.int 0)) := by
  refine zw_iload_n 1 f162_0 rfl rfl ?_
  refine zw_if_ne_f 4 11 f162_1 (by decide +kernel) rfl (by decide +kernel) ?_
  refine zw_aload_n 5 f162_4 rfl rfl ?_
  refine zw_getfield 8 f162_5 rfl g162_114_12 (mb_52 x) rfl ?_
  refine zw_goto 48 f162_8 (by decide +kernel) ?_
  refine zw_ireturn f162_48 r162 u162 ?_
  exact rfl
set_option maxRecDepth 100000 in
set_option maxHeartbeats 0 in
theorem m_count_k1 (ro : UInt32 → Nat × (Nat → Int32)) (x : Nat → va_E) : zWp ro 162 0 [(0, .ref 52), (1, .int 1)] [] (hMx x) 0 0 (fun r _ => r = some (.int 0)) := by
  refine zw_iload_n 1 f162_0 rfl rfl ?_
  refine zw_if_ne_t 11 f162_1 (by decide +kernel) (by decide +kernel) ?_
  refine zw_iload_n 12 f162_11 rfl rfl ?_
  refine zw_iconst 1 13 f162_12 rfl (by decide +kernel) ?_
  refine zw_ic_ne_f 16 23 f162_13 (by decide +kernel) rfl (by decide +kernel) ?_
  refine zw_aload_n 17 f162_16 rfl rfl ?_
  refine zw_getfield 20 f162_17 rfl g162_121_12 (mb_52 x) rfl ?_
  refine zw_goto 48 f162_20 (by decide +kernel) ?_
  refine zw_ireturn f162_48 r162 u162 ?_
  exact rfl
set_option maxRecDepth 100000 in
set_option maxHeartbeats 0 in
theorem m_count_k2 (ro : UInt32 → Nat × (Nat → Int32)) (x : Nat → va_E) : zWp ro 162 0 [(0, .ref 52), (1, .int 2)] [] (hMx x) 0 0 (fun r _ => r = some (.int 0)) := by
  refine zw_iload_n 1 f162_0 rfl rfl ?_
  refine zw_if_ne_t 11 f162_1 (by decide +kernel) (by decide +kernel) ?_
  refine zw_iload_n 12 f162_11 rfl rfl ?_
  refine zw_iconst 1 13 f162_12 rfl (by decide +kernel) ?_
  refine zw_ic_ne_t 23 f162_13 (by decide +kernel) (by decide +kernel) ?_
  refine zw_iload_n 24 f162_23 rfl rfl ?_
  refine zw_iconst 2 25 f162_24 rfl (by decide +kernel) ?_
  refine zw_ic_ne_f 28 35 f162_25 (by decide +kernel) rfl (by decide +kernel) ?_
  refine zw_aload_n 29 f162_28 rfl rfl ?_
  refine zw_getfield 32 f162_29 rfl g162_183_12 (mb_52 x) rfl ?_
  refine zw_goto 48 f162_32 (by decide +kernel) ?_
  refine zw_ireturn f162_48 r162 u162 ?_
  exact rfl
set_option maxRecDepth 100000 in
set_option maxHeartbeats 0 in
theorem m_count_k3 (ro : UInt32 → Nat × (Nat → Int32)) (x : Nat → va_E) : zWp ro 162 0 [(0, .ref 52), (1, .int 3)] [] (hMx x) 0 0 (fun r _ => r = some (.int 0)) := by
  refine zw_iload_n 1 f162_0 rfl rfl ?_
  refine zw_if_ne_t 11 f162_1 (by decide +kernel) (by decide +kernel) ?_
  refine zw_iload_n 12 f162_11 rfl rfl ?_
  refine zw_iconst 1 13 f162_12 rfl (by decide +kernel) ?_
  refine zw_ic_ne_t 23 f162_13 (by decide +kernel) (by decide +kernel) ?_
  refine zw_iload_n 24 f162_23 rfl rfl ?_
  refine zw_iconst 2 25 f162_24 rfl (by decide +kernel) ?_
  refine zw_ic_ne_t 35 f162_25 (by decide +kernel) (by decide +kernel) ?_
  refine zw_iload_n 36 f162_35 rfl rfl ?_
  refine zw_iconst 3 37 f162_36 rfl (by decide +kernel) ?_
  refine zw_ic_ne_f 40 47 f162_37 (by decide +kernel) rfl (by decide +kernel) ?_
  refine zw_aload_n 41 f162_40 rfl rfl ?_
  refine zw_getfield 44 f162_41 rfl g162_246_12 (mb_52 x) rfl ?_
  refine zw_goto 48 f162_44 (by decide +kernel) ?_
  refine zw_ireturn f162_48 r162 u162 ?_
  exact rfl
set_option maxRecDepth 100000 in
set_option maxHeartbeats 0 in
theorem m_count_o (ro : UInt32 → Nat × (Nat → Int32)) (x : Nat → va_E) (a : Int32) (h1 : a.toInt < 0 ∨ (3 : Int) < a.toInt) : zWp ro 162 0 [(0, .ref 52), (1, .int a)] [] (hMx x) 0 0 (fun r _ => r = some (.int (-1))) := by
  refine zw_iload_n 1 f162_0 rfl rfl ?_
  refine zw_if_ne_t 11 f162_1 (by decide +kernel) (zl_ne h1 (by decide)) ?_
  refine zw_iload_n 12 f162_11 rfl rfl ?_
  refine zw_iconst 1 13 f162_12 rfl (by decide +kernel) ?_
  refine zw_ic_ne_t 23 f162_13 (by decide +kernel) (zl_ne h1 (by decide)) ?_
  refine zw_iload_n 24 f162_23 rfl rfl ?_
  refine zw_iconst 2 25 f162_24 rfl (by decide +kernel) ?_
  refine zw_ic_ne_t 35 f162_25 (by decide +kernel) (zl_ne h1 (by decide)) ?_
  refine zw_iload_n 36 f162_35 rfl rfl ?_
  refine zw_iconst 3 37 f162_36 rfl (by decide +kernel) ?_
  refine zw_ic_ne_t 47 f162_37 (by decide +kernel) (zl_ne h1 (by decide)) ?_
  refine zw_iconst (-1) 48 f162_47 rfl (by decide +kernel) ?_
  refine zw_ireturn f162_48 r162 u162 ?_
  exact rfl
set_option maxRecDepth 100000 in
set_option maxHeartbeats 0 in
theorem m_event_r (ro : UInt32 → Nat × (Nat → Int32)) (x : Nat → va_E) (a b : Int32) : zWp ro 163 0 [(0, .ref 52), (1, .int a), (2, .int b)] [] (hMx x) 0 0 (fun r _ => r = some (.int (-1))) := by
  refine zw_aload_n 1 f163_0 rfl rfl ?_
  refine zw_getfield 4 f163_1 rfl g163_183_12 (mb_52 x) rfl ?_
  refine zw_sipush 400 7 f163_4 rfl (by decide +kernel) ?_
  refine zw_ic_ge_f 10 17 f163_7 (by decide +kernel) rfl (by decide +kernel) ?_
  refine zw_aload_n 11 f163_10 rfl rfl ?_
  refine zw_getfield 14 f163_11 rfl g163_183_12 (mb_52 x) rfl ?_
  refine zw_goto 20 f163_14 (by decide +kernel) ?_
  refine zw_istore_n [(3, .int 0), (0, .ref 52), (1, .int a), (2, .int b)] 21 f163_20 rfl (by decide +kernel) rfl ?_
  refine zw_iload_n 22 f163_21 rfl rfl ?_
  refine zw_iconst 0 23 f163_22 rfl (by decide +kernel) ?_
  refine zw_iload_n 24 f163_23 rfl rfl ?_
  refine zw_iconst 1 25 f163_24 rfl (by decide +kernel) ?_
  refine zw_isub (-1) 26 f163_25 rfl (by decide +kernel) ?_
  refine zw_static_i 29 0 0 [.int a, .int 0, .int (-1)] [] [(0, .int a), (1, .int 0), (2, .int (-1))] f163_26 rfl k163_117_99 rfl (by decide +kernel) (Nat.le_of_ble_eq_true rfl) (Nat.le_of_ble_eq_true rfl) rfl rfl (by decide +kernel) (by decide +kernel) rfl (Nat.le_of_ble_eq_true rfl) rfl ?_
  refine zw_iload_n 1 f120_0 rfl rfl ?_
  refine zw_iload_n 2 f120_1 rfl rfl ?_
  refine zw_ic_lt 5 14 f120_2 (by decide +kernel) rfl (fun hc1 => ?_) (fun hc1 => ?_)
  · refine zw_iconst 0 15 f120_14 rfl (by decide +kernel) ?_
    refine zw_zreturn f120_15 r120 u120 (by decide +kernel) ⟨_, rfl, ?_⟩
    refine zw_if_eq_t 41 f163_29 (by decide +kernel) (by decide +kernel) ?_
    refine zw_iconst (-1) 42 f163_41 rfl (by decide +kernel) ?_
    refine zw_ireturn f163_42 r163 u163 ?_
    exact rfl
  · refine zw_iload_n 6 f120_5 rfl rfl ?_
    refine zw_iload_n 7 f120_6 rfl rfl ?_
    refine zw_ic_gt_t 14 f120_7 (by decide +kernel) (zl_m1 hc1) ?_
    refine zw_iconst 0 15 f120_14 rfl (by decide +kernel) ?_
    refine zw_zreturn f120_15 r120 u120 (by decide +kernel) ⟨_, rfl, ?_⟩
    refine zw_if_eq_t 41 f163_29 (by decide +kernel) (by decide +kernel) ?_
    refine zw_iconst (-1) 42 f163_41 rfl (by decide +kernel) ?_
    refine zw_ireturn f163_42 r163 u163 ?_
    exact rfl
set_option maxRecDepth 100000 in
set_option maxHeartbeats 0 in
theorem m_sum_k0 (ro : UInt32 → Nat × (Nat → Int32)) (x : Nat → va_E) : zWp ro 164 0 [(0, .ref 52), (1, .int 0)] [] (hMx x) 0 0 (fun r _ => r = some (.long 0)) := by
  refine zw_lconst 0 1 f164_0 rfl (by decide +kernel) ?_
  refine zw_lstore_n [(2, .long 0), (0, .ref 52), (1, .int 0)] 2 f164_1 rfl (by decide +kernel) rfl ?_
  refine zw_iconst 0 3 f164_2 rfl (by decide +kernel) ?_
  refine zw_istore [(4, .int 0), (2, .long 0), (0, .ref 52), (1, .int 0)] 5 f164_3 rfl (by decide +kernel) rfl ?_
  refine zw_iload 7 f164_5 rfl rfl ?_
  refine zw_aload_n 8 f164_7 rfl rfl ?_
  refine zw_getfield 11 f164_8 rfl g164_114_12 (mb_52 x) rfl ?_
  refine zw_ic_ge_t 30 f164_11 (by decide +kernel) (by decide +kernel) ?_
  refine zw_iload_n 31 f164_30 rfl rfl ?_
  refine zw_table_i (off := 41) 72 f164_31 (by decide +kernel) (by decide +kernel) (by decide +kernel) ?_
  refine zw_aload_n 73 f164_72 rfl rfl ?_
  refine zw_getfield 76 f164_73 rfl g164_175_12 (mb_52 x) rfl ?_
  refine zw_aload_n 77 f164_76 rfl rfl ?_
  refine zw_getfield 80 f164_77 rfl g164_40_12 (mb_52 x) rfl ?_
  refine zw_iload_n 81 f164_80 rfl rfl ?_
  refine zw_static_l 84 0 0 [.long 0, .long 1, .int 0] [] [(0, .long 0), (2, .long 1), (4, .int 0)] f164_81 rfl k164_239_99 rfl (by decide +kernel) (Nat.le_of_ble_eq_true rfl) (Nat.le_of_ble_eq_true rfl) rfl rfl (by decide +kernel) (by decide +kernel) rfl (Nat.le_of_ble_eq_true rfl) rfl ?_
  refine zw_lload_n 1 f153_0 rfl rfl ?_
  refine zw_lload_n 2 f153_1 rfl rfl ?_
  refine zw_static_l 5 0 0 [.long 0, .long 1] [] [(0, .long 0), (2, .long 1)] f153_2 rfl k153_164_99 rfl (by decide +kernel) (Nat.le_of_ble_eq_true rfl) (Nat.le_of_ble_eq_true rfl) rfl rfl (by decide +kernel) (by decide +kernel) rfl (Nat.le_of_ble_eq_true rfl) rfl ?_
  refine zw_lload_n 1 f125_0 rfl rfl ?_
  refine zw_lconst 0 2 f125_1 rfl (by decide +kernel) ?_
  refine zw_lcmp 0 3 f125_2 rfl (by decide +kernel) ?_
  refine zw_if_ge_t 11 f125_3 (by decide +kernel) (by decide +kernel) ?_
  refine zw_lload_n 12 f125_11 rfl rfl ?_
  refine zw_lstore [(4, .long 0), (0, .long 0), (2, .long 1)] 14 f125_12 rfl (by decide +kernel) rfl ?_
  refine zw_lload_n 15 f125_14 rfl rfl ?_
  refine zw_lstore [(6, .long 1), (4, .long 0), (0, .long 0), (2, .long 1)] 17 f125_15 rfl (by decide +kernel) rfl ?_
  refine zw_lload 19 f125_17 rfl rfl ?_
  refine zw_lconst 0 20 f125_19 rfl (by decide +kernel) ?_
  refine zw_lcmp 1 21 f125_20 rfl (by decide +kernel) ?_
  refine zw_if_eq_f 24 42 f125_21 (by decide +kernel) rfl (by decide +kernel) ?_
  refine zw_lload 26 f125_24 rfl rfl ?_
  refine zw_lload 28 f125_26 rfl rfl ?_
  refine zw_lrem 0 29 f125_28 rfl (by decide +kernel) (by decide +kernel) ?_
  refine zw_lstore [(8, .long 0), (6, .long 1), (4, .long 0), (0, .long 0), (2, .long 1)] 31 f125_29 rfl (by decide +kernel) rfl ?_
  refine zw_lload 33 f125_31 rfl rfl ?_
  refine zw_lstore [(4, .long 1), (8, .long 0), (6, .long 1), (0, .long 0), (2, .long 1)] 35 f125_33 rfl (by decide +kernel) rfl ?_
  refine zw_lload 37 f125_35 rfl rfl ?_
  refine zw_lstore [(6, .long 0), (4, .long 1), (8, .long 0), (0, .long 0), (2, .long 1)] 39 f125_37 rfl (by decide +kernel) rfl ?_
  refine zw_goto 17 f125_39 (by decide +kernel) ?_
  refine zw_lload 19 f125_17 rfl rfl ?_
  refine zw_lconst 0 20 f125_19 rfl (by decide +kernel) ?_
  refine zw_lcmp 0 21 f125_20 rfl (by decide +kernel) ?_
  refine zw_if_eq_t 42 f125_21 (by decide +kernel) (by decide +kernel) ?_
  refine zw_lload 44 f125_42 rfl rfl ?_
  refine zw_lreturn f125_44 r125 u125 ⟨_, rfl, ?_⟩
  refine zw_lstore [(5, .long 1), (0, .long 0), (2, .long 1), (4, .int 0)] 7 f153_5 rfl (by decide +kernel) rfl ?_
  refine zw_iload 9 f153_7 rfl rfl ?_
  refine zw_if_ne_f 12 19 f153_9 (by decide +kernel) rfl (by decide +kernel) ?_
  refine zw_lload_n 13 f153_12 rfl rfl ?_
  refine zw_lload 15 f153_13 rfl rfl ?_
  refine zw_ldiv 0 16 f153_15 rfl (by decide +kernel) (by decide +kernel) ?_
  refine zw_goto 23 f153_16 (by decide +kernel) ?_
  refine zw_lreturn f153_23 r153 u153 ⟨_, rfl, ?_⟩
  refine zw_lreturn f164_84 r164 u164 ?_
  exact rfl
set_option maxRecDepth 100000 in
set_option maxHeartbeats 0 in
theorem m_sum_k1 (ro : UInt32 → Nat × (Nat → Int32)) (x : Nat → va_E) : zWp ro 164 0 [(0, .ref 52), (1, .int 1)] [] (hMx x) 0 0 (fun r _ => r = some (.long 1)) := by
  refine zw_lconst 0 1 f164_0 rfl (by decide +kernel) ?_
  refine zw_lstore_n [(2, .long 0), (0, .ref 52), (1, .int 1)] 2 f164_1 rfl (by decide +kernel) rfl ?_
  refine zw_iconst 0 3 f164_2 rfl (by decide +kernel) ?_
  refine zw_istore [(4, .int 0), (2, .long 0), (0, .ref 52), (1, .int 1)] 5 f164_3 rfl (by decide +kernel) rfl ?_
  refine zw_iload 7 f164_5 rfl rfl ?_
  refine zw_aload_n 8 f164_7 rfl rfl ?_
  refine zw_getfield 11 f164_8 rfl g164_114_12 (mb_52 x) rfl ?_
  refine zw_ic_ge_t 30 f164_11 (by decide +kernel) (by decide +kernel) ?_
  refine zw_iload_n 31 f164_30 rfl rfl ?_
  refine zw_table_i (off := 41) 72 f164_31 (by decide +kernel) (by decide +kernel) (by decide +kernel) ?_
  refine zw_aload_n 73 f164_72 rfl rfl ?_
  refine zw_getfield 76 f164_73 rfl g164_175_12 (mb_52 x) rfl ?_
  refine zw_aload_n 77 f164_76 rfl rfl ?_
  refine zw_getfield 80 f164_77 rfl g164_40_12 (mb_52 x) rfl ?_
  refine zw_iload_n 81 f164_80 rfl rfl ?_
  refine zw_static_l 84 0 0 [.long 0, .long 1, .int 1] [] [(0, .long 0), (2, .long 1), (4, .int 1)] f164_81 rfl k164_239_99 rfl (by decide +kernel) (Nat.le_of_ble_eq_true rfl) (Nat.le_of_ble_eq_true rfl) rfl rfl (by decide +kernel) (by decide +kernel) rfl (Nat.le_of_ble_eq_true rfl) rfl ?_
  refine zw_lload_n 1 f153_0 rfl rfl ?_
  refine zw_lload_n 2 f153_1 rfl rfl ?_
  refine zw_static_l 5 0 0 [.long 0, .long 1] [] [(0, .long 0), (2, .long 1)] f153_2 rfl k153_164_99 rfl (by decide +kernel) (Nat.le_of_ble_eq_true rfl) (Nat.le_of_ble_eq_true rfl) rfl rfl (by decide +kernel) (by decide +kernel) rfl (Nat.le_of_ble_eq_true rfl) rfl ?_
  refine zw_lload_n 1 f125_0 rfl rfl ?_
  refine zw_lconst 0 2 f125_1 rfl (by decide +kernel) ?_
  refine zw_lcmp 0 3 f125_2 rfl (by decide +kernel) ?_
  refine zw_if_ge_t 11 f125_3 (by decide +kernel) (by decide +kernel) ?_
  refine zw_lload_n 12 f125_11 rfl rfl ?_
  refine zw_lstore [(4, .long 0), (0, .long 0), (2, .long 1)] 14 f125_12 rfl (by decide +kernel) rfl ?_
  refine zw_lload_n 15 f125_14 rfl rfl ?_
  refine zw_lstore [(6, .long 1), (4, .long 0), (0, .long 0), (2, .long 1)] 17 f125_15 rfl (by decide +kernel) rfl ?_
  refine zw_lload 19 f125_17 rfl rfl ?_
  refine zw_lconst 0 20 f125_19 rfl (by decide +kernel) ?_
  refine zw_lcmp 1 21 f125_20 rfl (by decide +kernel) ?_
  refine zw_if_eq_f 24 42 f125_21 (by decide +kernel) rfl (by decide +kernel) ?_
  refine zw_lload 26 f125_24 rfl rfl ?_
  refine zw_lload 28 f125_26 rfl rfl ?_
  refine zw_lrem 0 29 f125_28 rfl (by decide +kernel) (by decide +kernel) ?_
  refine zw_lstore [(8, .long 0), (6, .long 1), (4, .long 0), (0, .long 0), (2, .long 1)] 31 f125_29 rfl (by decide +kernel) rfl ?_
  refine zw_lload 33 f125_31 rfl rfl ?_
  refine zw_lstore [(4, .long 1), (8, .long 0), (6, .long 1), (0, .long 0), (2, .long 1)] 35 f125_33 rfl (by decide +kernel) rfl ?_
  refine zw_lload 37 f125_35 rfl rfl ?_
  refine zw_lstore [(6, .long 0), (4, .long 1), (8, .long 0), (0, .long 0), (2, .long 1)] 39 f125_37 rfl (by decide +kernel) rfl ?_
  refine zw_goto 17 f125_39 (by decide +kernel) ?_
  refine zw_lload 19 f125_17 rfl rfl ?_
  refine zw_lconst 0 20 f125_19 rfl (by decide +kernel) ?_
  refine zw_lcmp 0 21 f125_20 rfl (by decide +kernel) ?_
  refine zw_if_eq_t 42 f125_21 (by decide +kernel) (by decide +kernel) ?_
  refine zw_lload 44 f125_42 rfl rfl ?_
  refine zw_lreturn f125_44 r125 u125 ⟨_, rfl, ?_⟩
  refine zw_lstore [(5, .long 1), (0, .long 0), (2, .long 1), (4, .int 1)] 7 f153_5 rfl (by decide +kernel) rfl ?_
  refine zw_iload 9 f153_7 rfl rfl ?_
  refine zw_if_ne_t 19 f153_9 (by decide +kernel) (by decide +kernel) ?_
  refine zw_lload_n 20 f153_19 rfl rfl ?_
  refine zw_lload 22 f153_20 rfl rfl ?_
  refine zw_ldiv 1 23 f153_22 rfl (by decide +kernel) (by decide +kernel) ?_
  refine zw_lreturn f153_23 r153 u153 ⟨_, rfl, ?_⟩
  refine zw_lreturn f164_84 r164 u164 ?_
  exact rfl
set_option maxRecDepth 100000 in
set_option maxHeartbeats 0 in
theorem m_sum_k2 (ro : UInt32 → Nat × (Nat → Int32)) (x : Nat → va_E) : zWp ro 164 0 [(0, .ref 52), (1, .int 2)] [] (hMx x) 0 0 (fun r _ => r = some (.long 0)) := by
  refine zw_lconst 0 1 f164_0 rfl (by decide +kernel) ?_
  refine zw_lstore_n [(2, .long 0), (0, .ref 52), (1, .int 2)] 2 f164_1 rfl (by decide +kernel) rfl ?_
  refine zw_iconst 0 3 f164_2 rfl (by decide +kernel) ?_
  refine zw_istore [(4, .int 0), (2, .long 0), (0, .ref 52), (1, .int 2)] 5 f164_3 rfl (by decide +kernel) rfl ?_
  refine zw_iload 7 f164_5 rfl rfl ?_
  refine zw_aload_n 8 f164_7 rfl rfl ?_
  refine zw_getfield 11 f164_8 rfl g164_114_12 (mb_52 x) rfl ?_
  refine zw_ic_ge_t 30 f164_11 (by decide +kernel) (by decide +kernel) ?_
  refine zw_iload_n 31 f164_30 rfl rfl ?_
  refine zw_table_i (off := 54) 85 f164_31 (by decide +kernel) (by decide +kernel) (by decide +kernel) ?_
  refine zw_aload_n 86 f164_85 rfl rfl ?_
  refine zw_getfield 89 f164_86 rfl g164_225_12 (mb_52 x) rfl ?_
  refine zw_lreturn f164_89 r164 u164 ?_
  exact rfl
set_option maxRecDepth 100000 in
set_option maxHeartbeats 0 in
theorem m_sum_k3 (ro : UInt32 → Nat × (Nat → Int32)) (x : Nat → va_E) : zWp ro 164 0 [(0, .ref 52), (1, .int 3)] [] (hMx x) 0 0 (fun r _ => r = some (.long 0)) := by
  refine zw_lconst 0 1 f164_0 rfl (by decide +kernel) ?_
  refine zw_lstore_n [(2, .long 0), (0, .ref 52), (1, .int 3)] 2 f164_1 rfl (by decide +kernel) rfl ?_
  refine zw_iconst 0 3 f164_2 rfl (by decide +kernel) ?_
  refine zw_istore [(4, .int 0), (2, .long 0), (0, .ref 52), (1, .int 3)] 5 f164_3 rfl (by decide +kernel) rfl ?_
  refine zw_iload 7 f164_5 rfl rfl ?_
  refine zw_aload_n 8 f164_7 rfl rfl ?_
  refine zw_getfield 11 f164_8 rfl g164_114_12 (mb_52 x) rfl ?_
  refine zw_ic_ge_t 30 f164_11 (by decide +kernel) (by decide +kernel) ?_
  refine zw_iload_n 31 f164_30 rfl rfl ?_
  refine zw_table_i (off := 59) 90 f164_31 (by decide +kernel) (by decide +kernel) (by decide +kernel) ?_
  refine zw_aload_n 91 f164_90 rfl rfl ?_
  refine zw_getfield 94 f164_91 rfl g164_178_12 (mb_52 x) rfl ?_
  refine zw_aload_n 95 f164_94 rfl rfl ?_
  refine zw_getfield 98 f164_95 rfl g164_40_12 (mb_52 x) rfl ?_
  refine zw_iload_n 99 f164_98 rfl rfl ?_
  refine zw_iconst 3 100 f164_99 rfl (by decide +kernel) ?_
  refine zw_isub 0 101 f164_100 rfl (by decide +kernel) ?_
  refine zw_static_l 104 0 0 [.long 0, .long 1, .int 0] [] [(0, .long 0), (2, .long 1), (4, .int 0)] f164_101 rfl k164_239_99 rfl (by decide +kernel) (Nat.le_of_ble_eq_true rfl) (Nat.le_of_ble_eq_true rfl) rfl rfl (by decide +kernel) (by decide +kernel) rfl (Nat.le_of_ble_eq_true rfl) rfl ?_
  refine zw_lload_n 1 f153_0 rfl rfl ?_
  refine zw_lload_n 2 f153_1 rfl rfl ?_
  refine zw_static_l 5 0 0 [.long 0, .long 1] [] [(0, .long 0), (2, .long 1)] f153_2 rfl k153_164_99 rfl (by decide +kernel) (Nat.le_of_ble_eq_true rfl) (Nat.le_of_ble_eq_true rfl) rfl rfl (by decide +kernel) (by decide +kernel) rfl (Nat.le_of_ble_eq_true rfl) rfl ?_
  refine zw_lload_n 1 f125_0 rfl rfl ?_
  refine zw_lconst 0 2 f125_1 rfl (by decide +kernel) ?_
  refine zw_lcmp 0 3 f125_2 rfl (by decide +kernel) ?_
  refine zw_if_ge_t 11 f125_3 (by decide +kernel) (by decide +kernel) ?_
  refine zw_lload_n 12 f125_11 rfl rfl ?_
  refine zw_lstore [(4, .long 0), (0, .long 0), (2, .long 1)] 14 f125_12 rfl (by decide +kernel) rfl ?_
  refine zw_lload_n 15 f125_14 rfl rfl ?_
  refine zw_lstore [(6, .long 1), (4, .long 0), (0, .long 0), (2, .long 1)] 17 f125_15 rfl (by decide +kernel) rfl ?_
  refine zw_lload 19 f125_17 rfl rfl ?_
  refine zw_lconst 0 20 f125_19 rfl (by decide +kernel) ?_
  refine zw_lcmp 1 21 f125_20 rfl (by decide +kernel) ?_
  refine zw_if_eq_f 24 42 f125_21 (by decide +kernel) rfl (by decide +kernel) ?_
  refine zw_lload 26 f125_24 rfl rfl ?_
  refine zw_lload 28 f125_26 rfl rfl ?_
  refine zw_lrem 0 29 f125_28 rfl (by decide +kernel) (by decide +kernel) ?_
  refine zw_lstore [(8, .long 0), (6, .long 1), (4, .long 0), (0, .long 0), (2, .long 1)] 31 f125_29 rfl (by decide +kernel) rfl ?_
  refine zw_lload 33 f125_31 rfl rfl ?_
  refine zw_lstore [(4, .long 1), (8, .long 0), (6, .long 1), (0, .long 0), (2, .long 1)] 35 f125_33 rfl (by decide +kernel) rfl ?_
  refine zw_lload 37 f125_35 rfl rfl ?_
  refine zw_lstore [(6, .long 0), (4, .long 1), (8, .long 0), (0, .long 0), (2, .long 1)] 39 f125_37 rfl (by decide +kernel) rfl ?_
  refine zw_goto 17 f125_39 (by decide +kernel) ?_
  refine zw_lload 19 f125_17 rfl rfl ?_
  refine zw_lconst 0 20 f125_19 rfl (by decide +kernel) ?_
  refine zw_lcmp 0 21 f125_20 rfl (by decide +kernel) ?_
  refine zw_if_eq_t 42 f125_21 (by decide +kernel) (by decide +kernel) ?_
  refine zw_lload 44 f125_42 rfl rfl ?_
  refine zw_lreturn f125_44 r125 u125 ⟨_, rfl, ?_⟩
  refine zw_lstore [(5, .long 1), (0, .long 0), (2, .long 1), (4, .int 0)] 7 f153_5 rfl (by decide +kernel) rfl ?_
  refine zw_iload 9 f153_7 rfl rfl ?_
  refine zw_if_ne_f 12 19 f153_9 (by decide +kernel) rfl (by decide +kernel) ?_
  refine zw_lload_n 13 f153_12 rfl rfl ?_
  refine zw_lload 15 f153_13 rfl rfl ?_
  refine zw_ldiv 0 16 f153_15 rfl (by decide +kernel) (by decide +kernel) ?_
  refine zw_goto 23 f153_16 (by decide +kernel) ?_
  refine zw_lreturn f153_23 r153 u153 ⟨_, rfl, ?_⟩
  refine zw_lreturn f164_104 r164 u164 ?_
  exact rfl
set_option maxRecDepth 100000 in
set_option maxHeartbeats 0 in
theorem m_sum_k4 (ro : UInt32 → Nat × (Nat → Int32)) (x : Nat → va_E) : zWp ro 164 0 [(0, .ref 52), (1, .int 4)] [] (hMx x) 0 0 (fun r _ => r = some (.long 1)) := by
  refine zw_lconst 0 1 f164_0 rfl (by decide +kernel) ?_
  refine zw_lstore_n [(2, .long 0), (0, .ref 52), (1, .int 4)] 2 f164_1 rfl (by decide +kernel) rfl ?_
  refine zw_iconst 0 3 f164_2 rfl (by decide +kernel) ?_
  refine zw_istore [(4, .int 0), (2, .long 0), (0, .ref 52), (1, .int 4)] 5 f164_3 rfl (by decide +kernel) rfl ?_
  refine zw_iload 7 f164_5 rfl rfl ?_
  refine zw_aload_n 8 f164_7 rfl rfl ?_
  refine zw_getfield 11 f164_8 rfl g164_114_12 (mb_52 x) rfl ?_
  refine zw_ic_ge_t 30 f164_11 (by decide +kernel) (by decide +kernel) ?_
  refine zw_iload_n 31 f164_30 rfl rfl ?_
  refine zw_table_i (off := 59) 90 f164_31 (by decide +kernel) (by decide +kernel) (by decide +kernel) ?_
  refine zw_aload_n 91 f164_90 rfl rfl ?_
  refine zw_getfield 94 f164_91 rfl g164_178_12 (mb_52 x) rfl ?_
  refine zw_aload_n 95 f164_94 rfl rfl ?_
  refine zw_getfield 98 f164_95 rfl g164_40_12 (mb_52 x) rfl ?_
  refine zw_iload_n 99 f164_98 rfl rfl ?_
  refine zw_iconst 3 100 f164_99 rfl (by decide +kernel) ?_
  refine zw_isub 1 101 f164_100 rfl (by decide +kernel) ?_
  refine zw_static_l 104 0 0 [.long 0, .long 1, .int 1] [] [(0, .long 0), (2, .long 1), (4, .int 1)] f164_101 rfl k164_239_99 rfl (by decide +kernel) (Nat.le_of_ble_eq_true rfl) (Nat.le_of_ble_eq_true rfl) rfl rfl (by decide +kernel) (by decide +kernel) rfl (Nat.le_of_ble_eq_true rfl) rfl ?_
  refine zw_lload_n 1 f153_0 rfl rfl ?_
  refine zw_lload_n 2 f153_1 rfl rfl ?_
  refine zw_static_l 5 0 0 [.long 0, .long 1] [] [(0, .long 0), (2, .long 1)] f153_2 rfl k153_164_99 rfl (by decide +kernel) (Nat.le_of_ble_eq_true rfl) (Nat.le_of_ble_eq_true rfl) rfl rfl (by decide +kernel) (by decide +kernel) rfl (Nat.le_of_ble_eq_true rfl) rfl ?_
  refine zw_lload_n 1 f125_0 rfl rfl ?_
  refine zw_lconst 0 2 f125_1 rfl (by decide +kernel) ?_
  refine zw_lcmp 0 3 f125_2 rfl (by decide +kernel) ?_
  refine zw_if_ge_t 11 f125_3 (by decide +kernel) (by decide +kernel) ?_
  refine zw_lload_n 12 f125_11 rfl rfl ?_
  refine zw_lstore [(4, .long 0), (0, .long 0), (2, .long 1)] 14 f125_12 rfl (by decide +kernel) rfl ?_
  refine zw_lload_n 15 f125_14 rfl rfl ?_
  refine zw_lstore [(6, .long 1), (4, .long 0), (0, .long 0), (2, .long 1)] 17 f125_15 rfl (by decide +kernel) rfl ?_
  refine zw_lload 19 f125_17 rfl rfl ?_
  refine zw_lconst 0 20 f125_19 rfl (by decide +kernel) ?_
  refine zw_lcmp 1 21 f125_20 rfl (by decide +kernel) ?_
  refine zw_if_eq_f 24 42 f125_21 (by decide +kernel) rfl (by decide +kernel) ?_
  refine zw_lload 26 f125_24 rfl rfl ?_
  refine zw_lload 28 f125_26 rfl rfl ?_
  refine zw_lrem 0 29 f125_28 rfl (by decide +kernel) (by decide +kernel) ?_
  refine zw_lstore [(8, .long 0), (6, .long 1), (4, .long 0), (0, .long 0), (2, .long 1)] 31 f125_29 rfl (by decide +kernel) rfl ?_
  refine zw_lload 33 f125_31 rfl rfl ?_
  refine zw_lstore [(4, .long 1), (8, .long 0), (6, .long 1), (0, .long 0), (2, .long 1)] 35 f125_33 rfl (by decide +kernel) rfl ?_
  refine zw_lload 37 f125_35 rfl rfl ?_
  refine zw_lstore [(6, .long 0), (4, .long 1), (8, .long 0), (0, .long 0), (2, .long 1)] 39 f125_37 rfl (by decide +kernel) rfl ?_
  refine zw_goto 17 f125_39 (by decide +kernel) ?_
  refine zw_lload 19 f125_17 rfl rfl ?_
  refine zw_lconst 0 20 f125_19 rfl (by decide +kernel) ?_
  refine zw_lcmp 0 21 f125_20 rfl (by decide +kernel) ?_
  refine zw_if_eq_t 42 f125_21 (by decide +kernel) (by decide +kernel) ?_
  refine zw_lload 44 f125_42 rfl rfl ?_
  refine zw_lreturn f125_44 r125 u125 ⟨_, rfl, ?_⟩
  refine zw_lstore [(5, .long 1), (0, .long 0), (2, .long 1), (4, .int 1)] 7 f153_5 rfl (by decide +kernel) rfl ?_
  refine zw_iload 9 f153_7 rfl rfl ?_
  refine zw_if_ne_t 19 f153_9 (by decide +kernel) (by decide +kernel) ?_
  refine zw_lload_n 20 f153_19 rfl rfl ?_
  refine zw_lload 22 f153_20 rfl rfl ?_
  refine zw_ldiv 1 23 f153_22 rfl (by decide +kernel) (by decide +kernel) ?_
  refine zw_lreturn f153_23 r153 u153 ⟨_, rfl, ?_⟩
  refine zw_lreturn f164_104 r164 u164 ?_
  exact rfl
set_option maxRecDepth 100000 in
set_option maxHeartbeats 0 in
theorem m_sum_k5 (ro : UInt32 → Nat × (Nat → Int32)) (x : Nat → va_E) : zWp ro 164 0 [(0, .ref 52), (1, .int 5)] [] (hMx x) 0 0 (fun r _ => r = some (.long 0)) := by
  refine zw_lconst 0 1 f164_0 rfl (by decide +kernel) ?_
  refine zw_lstore_n [(2, .long 0), (0, .ref 52), (1, .int 5)] 2 f164_1 rfl (by decide +kernel) rfl ?_
  refine zw_iconst 0 3 f164_2 rfl (by decide +kernel) ?_
  refine zw_istore [(4, .int 0), (2, .long 0), (0, .ref 52), (1, .int 5)] 5 f164_3 rfl (by decide +kernel) rfl ?_
  refine zw_iload 7 f164_5 rfl rfl ?_
  refine zw_aload_n 8 f164_7 rfl rfl ?_
  refine zw_getfield 11 f164_8 rfl g164_114_12 (mb_52 x) rfl ?_
  refine zw_ic_ge_t 30 f164_11 (by decide +kernel) (by decide +kernel) ?_
  refine zw_iload_n 31 f164_30 rfl rfl ?_
  refine zw_table_i (off := 74) 105 f164_31 (by decide +kernel) (by decide +kernel) (by decide +kernel) ?_
  refine zw_lload_n 106 f164_105 rfl rfl ?_
  refine zw_aload_n 107 f164_106 rfl rfl ?_
  refine zw_getfield 110 f164_107 rfl g164_40_12 (mb_52 x) rfl ?_
  refine zw_iload_n 111 f164_110 rfl rfl ?_
  refine zw_iconst 5 112 f164_111 rfl (by decide +kernel) ?_
  refine zw_isub 0 113 f164_112 rfl (by decide +kernel) ?_
  refine zw_static_l 116 0 0 [.long 0, .long 1, .int 0] [] [(0, .long 0), (2, .long 1), (4, .int 0)] f164_113 rfl k164_239_99 rfl (by decide +kernel) (Nat.le_of_ble_eq_true rfl) (Nat.le_of_ble_eq_true rfl) rfl rfl (by decide +kernel) (by decide +kernel) rfl (Nat.le_of_ble_eq_true rfl) rfl ?_
  refine zw_lload_n 1 f153_0 rfl rfl ?_
  refine zw_lload_n 2 f153_1 rfl rfl ?_
  refine zw_static_l 5 0 0 [.long 0, .long 1] [] [(0, .long 0), (2, .long 1)] f153_2 rfl k153_164_99 rfl (by decide +kernel) (Nat.le_of_ble_eq_true rfl) (Nat.le_of_ble_eq_true rfl) rfl rfl (by decide +kernel) (by decide +kernel) rfl (Nat.le_of_ble_eq_true rfl) rfl ?_
  refine zw_lload_n 1 f125_0 rfl rfl ?_
  refine zw_lconst 0 2 f125_1 rfl (by decide +kernel) ?_
  refine zw_lcmp 0 3 f125_2 rfl (by decide +kernel) ?_
  refine zw_if_ge_t 11 f125_3 (by decide +kernel) (by decide +kernel) ?_
  refine zw_lload_n 12 f125_11 rfl rfl ?_
  refine zw_lstore [(4, .long 0), (0, .long 0), (2, .long 1)] 14 f125_12 rfl (by decide +kernel) rfl ?_
  refine zw_lload_n 15 f125_14 rfl rfl ?_
  refine zw_lstore [(6, .long 1), (4, .long 0), (0, .long 0), (2, .long 1)] 17 f125_15 rfl (by decide +kernel) rfl ?_
  refine zw_lload 19 f125_17 rfl rfl ?_
  refine zw_lconst 0 20 f125_19 rfl (by decide +kernel) ?_
  refine zw_lcmp 1 21 f125_20 rfl (by decide +kernel) ?_
  refine zw_if_eq_f 24 42 f125_21 (by decide +kernel) rfl (by decide +kernel) ?_
  refine zw_lload 26 f125_24 rfl rfl ?_
  refine zw_lload 28 f125_26 rfl rfl ?_
  refine zw_lrem 0 29 f125_28 rfl (by decide +kernel) (by decide +kernel) ?_
  refine zw_lstore [(8, .long 0), (6, .long 1), (4, .long 0), (0, .long 0), (2, .long 1)] 31 f125_29 rfl (by decide +kernel) rfl ?_
  refine zw_lload 33 f125_31 rfl rfl ?_
  refine zw_lstore [(4, .long 1), (8, .long 0), (6, .long 1), (0, .long 0), (2, .long 1)] 35 f125_33 rfl (by decide +kernel) rfl ?_
  refine zw_lload 37 f125_35 rfl rfl ?_
  refine zw_lstore [(6, .long 0), (4, .long 1), (8, .long 0), (0, .long 0), (2, .long 1)] 39 f125_37 rfl (by decide +kernel) rfl ?_
  refine zw_goto 17 f125_39 (by decide +kernel) ?_
  refine zw_lload 19 f125_17 rfl rfl ?_
  refine zw_lconst 0 20 f125_19 rfl (by decide +kernel) ?_
  refine zw_lcmp 0 21 f125_20 rfl (by decide +kernel) ?_
  refine zw_if_eq_t 42 f125_21 (by decide +kernel) (by decide +kernel) ?_
  refine zw_lload 44 f125_42 rfl rfl ?_
  refine zw_lreturn f125_44 r125 u125 ⟨_, rfl, ?_⟩
  refine zw_lstore [(5, .long 1), (0, .long 0), (2, .long 1), (4, .int 0)] 7 f153_5 rfl (by decide +kernel) rfl ?_
  refine zw_iload 9 f153_7 rfl rfl ?_
  refine zw_if_ne_f 12 19 f153_9 (by decide +kernel) rfl (by decide +kernel) ?_
  refine zw_lload_n 13 f153_12 rfl rfl ?_
  refine zw_lload 15 f153_13 rfl rfl ?_
  refine zw_ldiv 0 16 f153_15 rfl (by decide +kernel) (by decide +kernel) ?_
  refine zw_goto 23 f153_16 (by decide +kernel) ?_
  refine zw_lreturn f153_23 r153 u153 ⟨_, rfl, ?_⟩
  refine zw_lreturn f164_116 r164 u164 ?_
  exact rfl
set_option maxRecDepth 100000 in
set_option maxHeartbeats 0 in
theorem m_sum_k6 (ro : UInt32 → Nat × (Nat → Int32)) (x : Nat → va_E) : zWp ro 164 0 [(0, .ref 52), (1, .int 6)] [] (hMx x) 0 0 (fun r _ => r = some (.long 1)) := by
  refine zw_lconst 0 1 f164_0 rfl (by decide +kernel) ?_
  refine zw_lstore_n [(2, .long 0), (0, .ref 52), (1, .int 6)] 2 f164_1 rfl (by decide +kernel) rfl ?_
  refine zw_iconst 0 3 f164_2 rfl (by decide +kernel) ?_
  refine zw_istore [(4, .int 0), (2, .long 0), (0, .ref 52), (1, .int 6)] 5 f164_3 rfl (by decide +kernel) rfl ?_
  refine zw_iload 7 f164_5 rfl rfl ?_
  refine zw_aload_n 8 f164_7 rfl rfl ?_
  refine zw_getfield 11 f164_8 rfl g164_114_12 (mb_52 x) rfl ?_
  refine zw_ic_ge_t 30 f164_11 (by decide +kernel) (by decide +kernel) ?_
  refine zw_iload_n 31 f164_30 rfl rfl ?_
  refine zw_table_i (off := 74) 105 f164_31 (by decide +kernel) (by decide +kernel) (by decide +kernel) ?_
  refine zw_lload_n 106 f164_105 rfl rfl ?_
  refine zw_aload_n 107 f164_106 rfl rfl ?_
  refine zw_getfield 110 f164_107 rfl g164_40_12 (mb_52 x) rfl ?_
  refine zw_iload_n 111 f164_110 rfl rfl ?_
  refine zw_iconst 5 112 f164_111 rfl (by decide +kernel) ?_
  refine zw_isub 1 113 f164_112 rfl (by decide +kernel) ?_
  refine zw_static_l 116 0 0 [.long 0, .long 1, .int 1] [] [(0, .long 0), (2, .long 1), (4, .int 1)] f164_113 rfl k164_239_99 rfl (by decide +kernel) (Nat.le_of_ble_eq_true rfl) (Nat.le_of_ble_eq_true rfl) rfl rfl (by decide +kernel) (by decide +kernel) rfl (Nat.le_of_ble_eq_true rfl) rfl ?_
  refine zw_lload_n 1 f153_0 rfl rfl ?_
  refine zw_lload_n 2 f153_1 rfl rfl ?_
  refine zw_static_l 5 0 0 [.long 0, .long 1] [] [(0, .long 0), (2, .long 1)] f153_2 rfl k153_164_99 rfl (by decide +kernel) (Nat.le_of_ble_eq_true rfl) (Nat.le_of_ble_eq_true rfl) rfl rfl (by decide +kernel) (by decide +kernel) rfl (Nat.le_of_ble_eq_true rfl) rfl ?_
  refine zw_lload_n 1 f125_0 rfl rfl ?_
  refine zw_lconst 0 2 f125_1 rfl (by decide +kernel) ?_
  refine zw_lcmp 0 3 f125_2 rfl (by decide +kernel) ?_
  refine zw_if_ge_t 11 f125_3 (by decide +kernel) (by decide +kernel) ?_
  refine zw_lload_n 12 f125_11 rfl rfl ?_
  refine zw_lstore [(4, .long 0), (0, .long 0), (2, .long 1)] 14 f125_12 rfl (by decide +kernel) rfl ?_
  refine zw_lload_n 15 f125_14 rfl rfl ?_
  refine zw_lstore [(6, .long 1), (4, .long 0), (0, .long 0), (2, .long 1)] 17 f125_15 rfl (by decide +kernel) rfl ?_
  refine zw_lload 19 f125_17 rfl rfl ?_
  refine zw_lconst 0 20 f125_19 rfl (by decide +kernel) ?_
  refine zw_lcmp 1 21 f125_20 rfl (by decide +kernel) ?_
  refine zw_if_eq_f 24 42 f125_21 (by decide +kernel) rfl (by decide +kernel) ?_
  refine zw_lload 26 f125_24 rfl rfl ?_
  refine zw_lload 28 f125_26 rfl rfl ?_
  refine zw_lrem 0 29 f125_28 rfl (by decide +kernel) (by decide +kernel) ?_
  refine zw_lstore [(8, .long 0), (6, .long 1), (4, .long 0), (0, .long 0), (2, .long 1)] 31 f125_29 rfl (by decide +kernel) rfl ?_
  refine zw_lload 33 f125_31 rfl rfl ?_
  refine zw_lstore [(4, .long 1), (8, .long 0), (6, .long 1), (0, .long 0), (2, .long 1)] 35 f125_33 rfl (by decide +kernel) rfl ?_
  refine zw_lload 37 f125_35 rfl rfl ?_
  refine zw_lstore [(6, .long 0), (4, .long 1), (8, .long 0), (0, .long 0), (2, .long 1)] 39 f125_37 rfl (by decide +kernel) rfl ?_
  refine zw_goto 17 f125_39 (by decide +kernel) ?_
  refine zw_lload 19 f125_17 rfl rfl ?_
  refine zw_lconst 0 20 f125_19 rfl (by decide +kernel) ?_
  refine zw_lcmp 0 21 f125_20 rfl (by decide +kernel) ?_
  refine zw_if_eq_t 42 f125_21 (by decide +kernel) (by decide +kernel) ?_
  refine zw_lload 44 f125_42 rfl rfl ?_
  refine zw_lreturn f125_44 r125 u125 ⟨_, rfl, ?_⟩
  refine zw_lstore [(5, .long 1), (0, .long 0), (2, .long 1), (4, .int 1)] 7 f153_5 rfl (by decide +kernel) rfl ?_
  refine zw_iload 9 f153_7 rfl rfl ?_
  refine zw_if_ne_t 19 f153_9 (by decide +kernel) (by decide +kernel) ?_
  refine zw_lload_n 20 f153_19 rfl rfl ?_
  refine zw_lload 22 f153_20 rfl rfl ?_
  refine zw_ldiv 1 23 f153_22 rfl (by decide +kernel) (by decide +kernel) ?_
  refine zw_lreturn f153_23 r153 u153 ⟨_, rfl, ?_⟩
  refine zw_lreturn f164_116 r164 u164 ?_
  exact rfl
set_option maxRecDepth 100000 in
set_option maxHeartbeats 0 in
theorem m_sum_o (ro : UInt32 → Nat × (Nat → Int32)) (x : Nat → va_E) (a : Int32) (h1 : a.toInt < 0 ∨ (6 : Int) < a.toInt) : zWp ro 164 0 [(0, .ref 52), (1, .int a)] [] (hMx x) 0 0 (fun r _ => r = some (.long (-1))) := by
  refine zw_lconst 0 1 f164_0 rfl (by decide +kernel) ?_
  refine zw_lstore_n [(2, .long 0), (0, .ref 52), (1, .int a)] 2 f164_1 rfl (by decide +kernel) rfl ?_
  refine zw_iconst 0 3 f164_2 rfl (by decide +kernel) ?_
  refine zw_istore [(4, .int 0), (2, .long 0), (0, .ref 52), (1, .int a)] 5 f164_3 rfl (by decide +kernel) rfl ?_
  refine zw_iload 7 f164_5 rfl rfl ?_
  refine zw_aload_n 8 f164_7 rfl rfl ?_
  refine zw_getfield 11 f164_8 rfl g164_114_12 (mb_52 x) rfl ?_
  refine zw_ic_ge_t 30 f164_11 (by decide +kernel) (by decide +kernel) ?_
  refine zw_iload_n 31 f164_30 rfl rfl ?_
  refine zw_table_o 117 f164_31 h1 (by decide +kernel) ?_
  refine zw_ldc2_w (-1) 120 f164_117 rfl (by decide +kernel) ?_
  refine zw_lreturn f164_120 r164 u164 ?_
  exact rfl
