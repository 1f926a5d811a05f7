set_option maxRecDepth 100000 in
set_option maxHeartbeats 0 in
theorem m_round_k0 (ro : UInt32 → Nat × (Nat → Int32)) (x : Nat → va_E) : zWp ro 170 0 [(0, .ref 52), (1, .int 0)] [] (hMx x) 0 0 (fun r _ => r = some (.int 0)) := by
  refine zw_iload_n 1 f170_0 rfl rfl ?_
  refine zw_iconst 0 2 f170_1 rfl (by decide +kernel) ?_
  refine zw_iconst 4 3 f170_2 rfl (by decide +kernel) ?_
  refine zw_static_i 6 0 0 [.int 0, .int 0, .int 4] [] [(0, .int 0), (1, .int 0), (2, .int 4)] f170_3 rfl k170_117_99 rfl (by decide +kernel) (Nat.le_of_ble_eq_true rfl) (Nat.le_of_ble_eq_true rfl) rfl rfl (by decide +kernel) (by decide +kernel) rfl (Nat.le_of_ble_eq_true rfl) rfl ?_
  refine zw_iload_n 1 f120_0 rfl rfl ?_
  refine zw_iload_n 2 f120_1 rfl rfl ?_
  refine zw_ic_lt_f 5 14 f120_2 (by decide +kernel) rfl (by decide +kernel) ?_
  refine zw_iload_n 6 f120_5 rfl rfl ?_
  refine zw_iload_n 7 f120_6 rfl rfl ?_
  refine zw_ic_gt_f 10 14 f120_7 (by decide +kernel) rfl (by decide +kernel) ?_
  refine zw_iconst 1 11 f120_10 rfl (by decide +kernel) ?_
  refine zw_goto 15 f120_11 (by decide +kernel) ?_
  refine zw_zreturn f120_15 r120 u120 (by decide +kernel) ⟨_, rfl, ?_⟩
  refine zw_if_ne_t 11 f170_6 (by decide +kernel) (by decide +kernel) ?_
  refine zw_aload_n 12 f170_11 rfl rfl ?_
  refine zw_virtual_v 15 0 0 [.ref 52] [(0, .ref 52)] f170_12 rfl n170_278 k170_278_12 rfl (mb_52 x) (by decide +kernel) (Nat.le_of_ble_eq_true rfl) rfl rfl (by decide +kernel) (by decide +kernel) rfl (Nat.le_of_ble_eq_true rfl) rfl ?_
  refine zw_aload_n 1 f165_0 rfl rfl ?_
  refine zw_iconst 0 2 f165_1 rfl (by decide +kernel) ?_
  refine zw_putfield 5 f165_2 rfl g165_58_12 (mb_52 x) rfl (zg_lt rfl) (by decide +kernel) ?_
  refine zw_aload_n 6 f165_5 rfl rfl ?_
  refine zw_aload_n 7 f165_6 rfl rfl ?_
  refine zw_getfield 10 f165_7 rfl g165_40_12 (zg_eq (mb_52 x)) (zg_ne rfl rfl) ?_
  refine zw_putfield 13 f165_10 rfl g165_249_12 (zg_eq (mb_52 x)) rfl (zg_lt (zg_ne rfl rfl)) (by decide +kernel) ?_
  refine zw_aload_n 14 f165_13 rfl rfl ?_
  refine zw_aload_n 15 f165_14 rfl rfl ?_
  refine zw_getfield 18 f165_15 rfl g165_172_12 (zg_eq (zg_eq (mb_52 x))) (zg_ne rfl (zg_ne rfl rfl)) ?_
  refine zw_putfieldS 21 f165_18 rfl g165_252_12 (zg_eq (zg_eq (mb_52 x))) rfl (zg_ne rfl (zg_ne rfl rfl)) (by decide +kernel) ?_
  refine zw_aload_n 22 f165_21 rfl rfl ?_
  refine zw_aload_n 23 f165_22 rfl rfl ?_
  refine zw_getfield 26 f165_23 rfl g165_175_12 (zg_eq (zg_eq (mb_52 x))) (zg_ne rfl (zg_ne rfl rfl)) ?_
  refine zw_putfieldS 29 f165_26 rfl g165_255_12 (zg_eq (zg_eq (mb_52 x))) rfl (zg_ne rfl (zg_ne rfl rfl)) (by decide +kernel) ?_
  refine zw_aload_n 30 f165_29 rfl rfl ?_
  refine zw_aload_n 31 f165_30 rfl rfl ?_
  refine zw_getfield 34 f165_31 rfl g165_178_12 (zg_eq (zg_eq (mb_52 x))) (zg_ne rfl (zg_ne rfl rfl)) ?_
  refine zw_putfieldS 37 f165_34 rfl g165_258_12 (zg_eq (zg_eq (mb_52 x))) rfl (zg_ne rfl (zg_ne rfl rfl)) (by decide +kernel) ?_
  refine zw_aload_n 38 f165_37 rfl rfl ?_
  refine zw_aload_n 39 f165_38 rfl rfl ?_
  refine zw_getfield 42 f165_39 rfl g165_183_12 (zg_eq (zg_eq (mb_52 x))) (zg_ne rfl (zg_ne rfl rfl)) ?_
  refine zw_putfieldS 45 f165_42 rfl g165_261_12 (zg_eq (zg_eq (mb_52 x))) rfl (zg_ne rfl (zg_ne rfl rfl)) (by decide +kernel) ?_
  refine zw_iconst 0 46 f165_45 rfl (by decide +kernel) ?_
  refine zw_istore_n [(1, .int 0), (0, .ref 52)] 47 f165_46 rfl (by decide +kernel) rfl ?_
  refine zw_iload_n 48 f165_47 rfl rfl ?_
  refine zw_bipush 8 50 f165_48 rfl (by decide +kernel) ?_
  refine zw_ic_ge_f 53 95 f165_50 (by decide +kernel) rfl (by decide +kernel) ?_
  refine zw_aload_n 54 f165_53 rfl rfl ?_
  refine zw_getfield 57 f165_54 rfl g165_96_12 (zg_eq (zg_eq (mb_52 x))) (zg_ne rfl (zg_ne rfl rfl)) ?_
  refine zw_iload_n 58 f165_57 rfl rfl ?_
  refine zw_aload_n 59 f165_58 rfl rfl ?_
  refine zw_getfield 62 f165_59 rfl g165_44_12 (zg_eq (zg_eq (mb_52 x))) (zg_ne rfl (zg_ne rfl rfl)) ?_
  refine zw_iload_n 63 f165_62 rfl rfl ?_
  refine zw_laload 0 0 64 f165_63 rfl (zg_ne rfl (zg_ne rfl (mb_63 x))) (by decide +kernel) (by decide +kernel) (by decide +kernel) rfl ?_
  refine zw_lastoreS 0 65 f165_64 rfl (zg_ne rfl (zg_ne rfl (mb_77 x))) (by decide +kernel) (by decide +kernel) (by decide +kernel) rfl ?_
  refine zw_aload_n 66 f165_65 rfl rfl ?_
  refine zw_getfield 69 f165_66 rfl g165_102_12 (zg_eq (zg_eq (mb_52 x))) (zg_ne rfl (zg_ne rfl rfl)) ?_
  refine zw_iload_n 70 f165_69 rfl rfl ?_
  refine zw_aload_n 71 f165_70 rfl rfl ?_
  refine zw_getfield 74 f165_71 rfl g165_52_12 (zg_eq (zg_eq (mb_52 x))) (zg_ne rfl (zg_ne rfl rfl)) ?_
  refine zw_iload_n 75 f165_74 rfl rfl ?_
  refine zw_baload 0 0 76 f165_75 rfl (zg_ne rfl (zg_ne rfl (mb_65 x))) (by decide +kernel) (by decide +kernel) (by decide +kernel) rfl ?_
  refine zw_bastoreS 0 77 f165_76 rfl (zg_ne rfl (zg_ne rfl (mb_79 x))) (by decide +kernel) (by decide +kernel) (by decide +kernel) (by decide +kernel) ?_
  refine zw_aload_n 78 f165_77 rfl rfl ?_
  refine zw_getfield 81 f165_78 rfl g165_105_12 (zg_eq (zg_eq (mb_52 x))) (zg_ne rfl (zg_ne rfl rfl)) ?_
  refine zw_iload_n 82 f165_81 rfl rfl ?_
  refine zw_aload_n 83 f165_82 rfl rfl ?_
  refine zw_getfield 86 f165_83 rfl g165_55_12 (zg_eq (zg_eq (mb_52 x))) (zg_ne rfl (zg_ne rfl rfl)) ?_
  refine zw_iload_n 87 f165_86 rfl rfl ?_
  refine zw_iaload 0 0 88 f165_87 rfl (zg_ne rfl (zg_ne rfl (mb_66 x))) (by decide +kernel) (by decide +kernel) (by decide +kernel) rfl ?_
  refine zw_iastoreS 0 89 f165_88 rfl (zg_ne rfl (zg_ne rfl (mb_80 x))) (by decide +kernel) (by decide +kernel) (by decide +kernel) rfl ?_
  refine zw_iinc 1 [(1, .int 1), (0, .ref 52)] 92 f165_89 rfl rfl (by decide +kernel) (by decide +kernel) rfl ?_
  refine zw_goto 47 f165_92 (by decide +kernel) ?_
  refine zw_iload_n 48 f165_47 rfl rfl ?_
  refine zw_bipush 8 50 f165_48 rfl (by decide +kernel) ?_
  refine zw_ic_ge_f 53 95 f165_50 (by decide +kernel) rfl (by decide +kernel) ?_
  refine zw_aload_n 54 f165_53 rfl rfl ?_
  refine zw_getfield 57 f165_54 rfl g165_96_12 (zg_eq (zg_eq (mb_52 x))) (zg_ne rfl (zg_ne rfl rfl)) ?_
  refine zw_iload_n 58 f165_57 rfl rfl ?_
  refine zw_aload_n 59 f165_58 rfl rfl ?_
  refine zw_getfield 62 f165_59 rfl g165_44_12 (zg_eq (zg_eq (mb_52 x))) (zg_ne rfl (zg_ne rfl rfl)) ?_
  refine zw_iload_n 63 f165_62 rfl rfl ?_
  refine zw_laload 1 0 64 f165_63 rfl (zg_ne rfl (zg_ne rfl (mb_63 x))) (by decide +kernel) (by decide +kernel) (by decide +kernel) rfl ?_
  refine zw_lastoreS 1 65 f165_64 rfl (zg_ne rfl (zg_ne rfl (mb_77 x))) (by decide +kernel) (by decide +kernel) (by decide +kernel) rfl ?_
  refine zw_aload_n 66 f165_65 rfl rfl ?_
  refine zw_getfield 69 f165_66 rfl g165_102_12 (zg_eq (zg_eq (mb_52 x))) (zg_ne rfl (zg_ne rfl rfl)) ?_
  refine zw_iload_n 70 f165_69 rfl rfl ?_
  refine zw_aload_n 71 f165_70 rfl rfl ?_
  refine zw_getfield 74 f165_71 rfl g165_52_12 (zg_eq (zg_eq (mb_52 x))) (zg_ne rfl (zg_ne rfl rfl)) ?_
  refine zw_iload_n 75 f165_74 rfl rfl ?_
  refine zw_baload 1 0 76 f165_75 rfl (zg_ne rfl (zg_ne rfl (mb_65 x))) (by decide +kernel) (by decide +kernel) (by decide +kernel) rfl ?_
  refine zw_bastoreS 1 77 f165_76 rfl (zg_ne rfl (zg_ne rfl (mb_79 x))) (by decide +kernel) (by decide +kernel) (by decide +kernel) (by decide +kernel) ?_
  refine zw_aload_n 78 f165_77 rfl rfl ?_
  refine zw_getfield 81 f165_78 rfl g165_105_12 (zg_eq (zg_eq (mb_52 x))) (zg_ne rfl (zg_ne rfl rfl)) ?_
  refine zw_iload_n 82 f165_81 rfl rfl ?_
  refine zw_aload_n 83 f165_82 rfl rfl ?_
  refine zw_getfield 86 f165_83 rfl g165_55_12 (zg_eq (zg_eq (mb_52 x))) (zg_ne rfl (zg_ne rfl rfl)) ?_
  refine zw_iload_n 87 f165_86 rfl rfl ?_
  refine zw_iaload 1 0 88 f165_87 rfl (zg_ne rfl (zg_ne rfl (mb_66 x))) (by decide +kernel) (by decide +kernel) (by decide +kernel) rfl ?_
  refine zw_iastoreS 1 89 f165_88 rfl (zg_ne rfl (zg_ne rfl (mb_80 x))) (by decide +kernel) (by decide +kernel) (by decide +kernel) rfl ?_
  refine zw_iinc 2 [(1, .int 2), (0, .ref 52)] 92 f165_89 rfl rfl (by decide +kernel) (by decide +kernel) rfl ?_
  refine zw_goto 47 f165_92 (by decide +kernel) ?_
  refine zw_iload_n 48 f165_47 rfl rfl ?_
  refine zw_bipush 8 50 f165_48 rfl (by decide +kernel) ?_
  refine zw_ic_ge_f 53 95 f165_50 (by decide +kernel) rfl (by decide +kernel) ?_
  refine zw_aload_n 54 f165_53 rfl rfl ?_
  refine zw_getfield 57 f165_54 rfl g165_96_12 (zg_eq (zg_eq (mb_52 x))) (zg_ne rfl (zg_ne rfl rfl)) ?_
  refine zw_iload_n 58 f165_57 rfl rfl ?_
  refine zw_aload_n 59 f165_58 rfl rfl ?_
  refine zw_getfield 62 f165_59 rfl g165_44_12 (zg_eq (zg_eq (mb_52 x))) (zg_ne rfl (zg_ne rfl rfl)) ?_
  refine zw_iload_n 63 f165_62 rfl rfl ?_
  refine zw_laload 2 0 64 f165_63 rfl (zg_ne rfl (zg_ne rfl (mb_63 x))) (by decide +kernel) (by decide +kernel) (by decide +kernel) rfl ?_
  refine zw_lastoreS 2 65 f165_64 rfl (zg_ne rfl (zg_ne rfl (mb_77 x))) (by decide +kernel) (by decide +kernel) (by decide +kernel) rfl ?_
  refine zw_aload_n 66 f165_65 rfl rfl ?_
  refine zw_getfield 69 f165_66 rfl g165_102_12 (zg_eq (zg_eq (mb_52 x))) (zg_ne rfl (zg_ne rfl rfl)) ?_
  refine zw_iload_n 70 f165_69 rfl rfl ?_
  refine zw_aload_n 71 f165_70 rfl rfl ?_
  refine zw_getfield 74 f165_71 rfl g165_52_12 (zg_eq (zg_eq (mb_52 x))) (zg_ne rfl (zg_ne rfl rfl)) ?_
  refine zw_iload_n 75 f165_74 rfl rfl ?_
  refine zw_baload 2 0 76 f165_75 rfl (zg_ne rfl (zg_ne rfl (mb_65 x))) (by decide +kernel) (by decide +kernel) (by decide +kernel) rfl ?_
  refine zw_bastoreS 2 77 f165_76 rfl (zg_ne rfl (zg_ne rfl (mb_79 x))) (by decide +kernel) (by decide +kernel) (by decide +kernel) (by decide +kernel) ?_
  refine zw_aload_n 78 f165_77 rfl rfl ?_
  refine zw_getfield 81 f165_78 rfl g165_105_12 (zg_eq (zg_eq (mb_52 x))) (zg_ne rfl (zg_ne rfl rfl)) ?_
  refine zw_iload_n 82 f165_81 rfl rfl ?_
  refine zw_aload_n 83 f165_82 rfl rfl ?_
  refine zw_getfield 86 f165_83 rfl g165_55_12 (zg_eq (zg_eq (mb_52 x))) (zg_ne rfl (zg_ne rfl rfl)) ?_
  refine zw_iload_n 87 f165_86 rfl rfl ?_
  refine zw_iaload 2 0 88 f165_87 rfl (zg_ne rfl (zg_ne rfl (mb_66 x))) (by decide +kernel) (by decide +kernel) (by decide +kernel) rfl ?_
  refine zw_iastoreS 2 89 f165_88 rfl (zg_ne rfl (zg_ne rfl (mb_80 x))) (by decide +kernel) (by decide +kernel) (by decide +kernel) rfl ?_
  refine zw_iinc 3 [(1, .int 3), (0, .ref 52)] 92 f165_89 rfl rfl (by decide +kernel) (by decide +kernel) rfl ?_
  refine zw_goto 47 f165_92 (by decide +kernel) ?_
  refine zw_iload_n 48 f165_47 rfl rfl ?_
  refine zw_bipush 8 50 f165_48 rfl (by decide +kernel) ?_
  refine zw_ic_ge_f 53 95 f165_50 (by decide +kernel) rfl (by decide +kernel) ?_
  refine zw_aload_n 54 f165_53 rfl rfl ?_
  refine zw_getfield 57 f165_54 rfl g165_96_12 (zg_eq (zg_eq (mb_52 x))) (zg_ne rfl (zg_ne rfl rfl)) ?_
  refine zw_iload_n 58 f165_57 rfl rfl ?_
  refine zw_aload_n 59 f165_58 rfl rfl ?_
  refine zw_getfield 62 f165_59 rfl g165_44_12 (zg_eq (zg_eq (mb_52 x))) (zg_ne rfl (zg_ne rfl rfl)) ?_
  refine zw_iload_n 63 f165_62 rfl rfl ?_
  refine zw_laload 3 0 64 f165_63 rfl (zg_ne rfl (zg_ne rfl (mb_63 x))) (by decide +kernel) (by decide +kernel) (by decide +kernel) rfl ?_
  refine zw_lastoreS 3 65 f165_64 rfl (zg_ne rfl (zg_ne rfl (mb_77 x))) (by decide +kernel) (by decide +kernel) (by decide +kernel) rfl ?_
  refine zw_aload_n 66 f165_65 rfl rfl ?_
  refine zw_getfield 69 f165_66 rfl g165_102_12 (zg_eq (zg_eq (mb_52 x))) (zg_ne rfl (zg_ne rfl rfl)) ?_
  refine zw_iload_n 70 f165_69 rfl rfl ?_
  refine zw_aload_n 71 f165_70 rfl rfl ?_
  refine zw_getfield 74 f165_71 rfl g165_52_12 (zg_eq (zg_eq (mb_52 x))) (zg_ne rfl (zg_ne rfl rfl)) ?_
  refine zw_iload_n 75 f165_74 rfl rfl ?_
  refine zw_baload 3 0 76 f165_75 rfl (zg_ne rfl (zg_ne rfl (mb_65 x))) (by decide +kernel) (by decide +kernel) (by decide +kernel) rfl ?_
  refine zw_bastoreS 3 77 f165_76 rfl (zg_ne rfl (zg_ne rfl (mb_79 x))) (by decide +kernel) (by decide +kernel) (by decide +kernel) (by decide +kernel) ?_
  refine zw_aload_n 78 f165_77 rfl rfl ?_
  refine zw_getfield 81 f165_78 rfl g165_105_12 (zg_eq (zg_eq (mb_52 x))) (zg_ne rfl (zg_ne rfl rfl)) ?_
  refine zw_iload_n 82 f165_81 rfl rfl ?_
  refine zw_aload_n 83 f165_82 rfl rfl ?_
  refine zw_getfield 86 f165_83 rfl g165_55_12 (zg_eq (zg_eq (mb_52 x))) (zg_ne rfl (zg_ne rfl rfl)) ?_
  refine zw_iload_n 87 f165_86 rfl rfl ?_
  refine zw_iaload 3 0 88 f165_87 rfl (zg_ne rfl (zg_ne rfl (mb_66 x))) (by decide +kernel) (by decide +kernel) (by decide +kernel) rfl ?_
  refine zw_iastoreS 3 89 f165_88 rfl (zg_ne rfl (zg_ne rfl (mb_80 x))) (by decide +kernel) (by decide +kernel) (by decide +kernel) rfl ?_
  refine zw_iinc 4 [(1, .int 4), (0, .ref 52)] 92 f165_89 rfl rfl (by decide +kernel) (by decide +kernel) rfl ?_
  refine zw_goto 47 f165_92 (by decide +kernel) ?_
  refine zw_iload_n 48 f165_47 rfl rfl ?_
  refine zw_bipush 8 50 f165_48 rfl (by decide +kernel) ?_
  refine zw_ic_ge_f 53 95 f165_50 (by decide +kernel) rfl (by decide +kernel) ?_
  refine zw_aload_n 54 f165_53 rfl rfl ?_
  refine zw_getfield 57 f165_54 rfl g165_96_12 (zg_eq (zg_eq (mb_52 x))) (zg_ne rfl (zg_ne rfl rfl)) ?_
  refine zw_iload_n 58 f165_57 rfl rfl ?_
  refine zw_aload_n 59 f165_58 rfl rfl ?_
  refine zw_getfield 62 f165_59 rfl g165_44_12 (zg_eq (zg_eq (mb_52 x))) (zg_ne rfl (zg_ne rfl rfl)) ?_
  refine zw_iload_n 63 f165_62 rfl rfl ?_
  refine zw_laload 4 0 64 f165_63 rfl (zg_ne rfl (zg_ne rfl (mb_63 x))) (by decide +kernel) (by decide +kernel) (by decide +kernel) rfl ?_
  refine zw_lastoreS 4 65 f165_64 rfl (zg_ne rfl (zg_ne rfl (mb_77 x))) (by decide +kernel) (by decide +kernel) (by decide +kernel) rfl ?_
  refine zw_aload_n 66 f165_65 rfl rfl ?_
  refine zw_getfield 69 f165_66 rfl g165_102_12 (zg_eq (zg_eq (mb_52 x))) (zg_ne rfl (zg_ne rfl rfl)) ?_
  refine zw_iload_n 70 f165_69 rfl rfl ?_
  refine zw_aload_n 71 f165_70 rfl rfl ?_
  refine zw_getfield 74 f165_71 rfl g165_52_12 (zg_eq (zg_eq (mb_52 x))) (zg_ne rfl (zg_ne rfl rfl)) ?_
  refine zw_iload_n 75 f165_74 rfl rfl ?_
  refine zw_baload 4 0 76 f165_75 rfl (zg_ne rfl (zg_ne rfl (mb_65 x))) (by decide +kernel) (by decide +kernel) (by decide +kernel) rfl ?_
  refine zw_bastoreS 4 77 f165_76 rfl (zg_ne rfl (zg_ne rfl (mb_79 x))) (by decide +kernel) (by decide +kernel) (by decide +kernel) (by decide +kernel) ?_
  refine zw_aload_n 78 f165_77 rfl rfl ?_
  refine zw_getfield 81 f165_78 rfl g165_105_12 (zg_eq (zg_eq (mb_52 x))) (zg_ne rfl (zg_ne rfl rfl)) ?_
  refine zw_iload_n 82 f165_81 rfl rfl ?_
  refine zw_aload_n 83 f165_82 rfl rfl ?_
  refine zw_getfield 86 f165_83 rfl g165_55_12 (zg_eq (zg_eq (mb_52 x))) (zg_ne rfl (zg_ne rfl rfl)) ?_
  refine zw_iload_n 87 f165_86 rfl rfl ?_
  refine zw_iaload 4 0 88 f165_87 rfl (zg_ne rfl (zg_ne rfl (mb_66 x))) (by decide +kernel) (by decide +kernel) (by decide +kernel) rfl ?_
  refine zw_iastoreS 4 89 f165_88 rfl (zg_ne rfl (zg_ne rfl (mb_80 x))) (by decide +kernel) (by decide +kernel) (by decide +kernel) rfl ?_
  refine zw_iinc 5 [(1, .int 5), (0, .ref 52)] 92 f165_89 rfl rfl (by decide +kernel) (by decide +kernel) rfl ?_
  refine zw_goto 47 f165_92 (by decide +kernel) ?_
  refine zw_iload_n 48 f165_47 rfl rfl ?_
  refine zw_bipush 8 50 f165_48 rfl (by decide +kernel) ?_
  refine zw_ic_ge_f 53 95 f165_50 (by decide +kernel) rfl (by decide +kernel) ?_
  refine zw_aload_n 54 f165_53 rfl rfl ?_
  refine zw_getfield 57 f165_54 rfl g165_96_12 (zg_eq (zg_eq (mb_52 x))) (zg_ne rfl (zg_ne rfl rfl)) ?_
  refine zw_iload_n 58 f165_57 rfl rfl ?_
  refine zw_aload_n 59 f165_58 rfl rfl ?_
  refine zw_getfield 62 f165_59 rfl g165_44_12 (zg_eq (zg_eq (mb_52 x))) (zg_ne rfl (zg_ne rfl rfl)) ?_
  refine zw_iload_n 63 f165_62 rfl rfl ?_
  refine zw_laload 5 0 64 f165_63 rfl (zg_ne rfl (zg_ne rfl (mb_63 x))) (by decide +kernel) (by decide +kernel) (by decide +kernel) rfl ?_
  refine zw_lastoreS 5 65 f165_64 rfl (zg_ne rfl (zg_ne rfl (mb_77 x))) (by decide +kernel) (by decide +kernel) (by decide +kernel) rfl ?_
  refine zw_aload_n 66 f165_65 rfl rfl ?_
  refine zw_getfield 69 f165_66 rfl g165_102_12 (zg_eq (zg_eq (mb_52 x))) (zg_ne rfl (zg_ne rfl rfl)) ?_
  refine zw_iload_n 70 f165_69 rfl rfl ?_
  refine zw_aload_n 71 f165_70 rfl rfl ?_
  refine zw_getfield 74 f165_71 rfl g165_52_12 (zg_eq (zg_eq (mb_52 x))) (zg_ne rfl (zg_ne rfl rfl)) ?_
  refine zw_iload_n 75 f165_74 rfl rfl ?_
  refine zw_baload 5 0 76 f165_75 rfl (zg_ne rfl (zg_ne rfl (mb_65 x))) (by decide +kernel) (by decide +kernel) (by decide +kernel) rfl ?_
  refine zw_bastoreS 5 77 f165_76 rfl (zg_ne rfl (zg_ne rfl (mb_79 x))) (by decide +kernel) (by decide +kernel) (by decide +kernel) (by decide +kernel) ?_
  refine zw_aload_n 78 f165_77 rfl rfl ?_
  refine zw_getfield 81 f165_78 rfl g165_105_12 (zg_eq (zg_eq (mb_52 x))) (zg_ne rfl (zg_ne rfl rfl)) ?_
  refine zw_iload_n 82 f165_81 rfl rfl ?_
  refine zw_aload_n 83 f165_82 rfl rfl ?_
  refine zw_getfield 86 f165_83 rfl g165_55_12 (zg_eq (zg_eq (mb_52 x))) (zg_ne rfl (zg_ne rfl rfl)) ?_
  refine zw_iload_n 87 f165_86 rfl rfl ?_
  refine zw_iaload 5 0 88 f165_87 rfl (zg_ne rfl (zg_ne rfl (mb_66 x))) (by decide +kernel) (by decide +kernel) (by decide +kernel) rfl ?_
  refine zw_iastoreS 5 89 f165_88 rfl (zg_ne rfl (zg_ne rfl (mb_80 x))) (by decide +kernel) (by decide +kernel) (by decide +kernel) rfl ?_
  refine zw_iinc 6 [(1, .int 6), (0, .ref 52)] 92 f165_89 rfl rfl (by decide +kernel) (by decide +kernel) rfl ?_
  refine zw_goto 47 f165_92 (by decide +kernel) ?_
  refine zw_iload_n 48 f165_47 rfl rfl ?_
  refine zw_bipush 8 50 f165_48 rfl (by decide +kernel) ?_
  refine zw_ic_ge_f 53 95 f165_50 (by decide +kernel) rfl (by decide +kernel) ?_
  refine zw_aload_n 54 f165_53 rfl rfl ?_
  refine zw_getfield 57 f165_54 rfl g165_96_12 (zg_eq (zg_eq (mb_52 x))) (zg_ne rfl (zg_ne rfl rfl)) ?_
  refine zw_iload_n 58 f165_57 rfl rfl ?_
  refine zw_aload_n 59 f165_58 rfl rfl ?_
  refine zw_getfield 62 f165_59 rfl g165_44_12 (zg_eq (zg_eq (mb_52 x))) (zg_ne rfl (zg_ne rfl rfl)) ?_
  refine zw_iload_n 63 f165_62 rfl rfl ?_
  refine zw_laload 6 0 64 f165_63 rfl (zg_ne rfl (zg_ne rfl (mb_63 x))) (by decide +kernel) (by decide +kernel) (by decide +kernel) rfl ?_
  refine zw_lastoreS 6 65 f165_64 rfl (zg_ne rfl (zg_ne rfl (mb_77 x))) (by decide +kernel) (by decide +kernel) (by decide +kernel) rfl ?_
  refine zw_aload_n 66 f165_65 rfl rfl ?_
  refine zw_getfield 69 f165_66 rfl g165_102_12 (zg_eq (zg_eq (mb_52 x))) (zg_ne rfl (zg_ne rfl rfl)) ?_
  refine zw_iload_n 70 f165_69 rfl rfl ?_
  refine zw_aload_n 71 f165_70 rfl rfl ?_
  refine zw_getfield 74 f165_71 rfl g165_52_12 (zg_eq (zg_eq (mb_52 x))) (zg_ne rfl (zg_ne rfl rfl)) ?_
  refine zw_iload_n 75 f165_74 rfl rfl ?_
  refine zw_baload 6 0 76 f165_75 rfl (zg_ne rfl (zg_ne rfl (mb_65 x))) (by decide +kernel) (by decide +kernel) (by decide +kernel) rfl ?_
  refine zw_bastoreS 6 77 f165_76 rfl (zg_ne rfl (zg_ne rfl (mb_79 x))) (by decide +kernel) (by decide +kernel) (by decide +kernel) (by decide +kernel) ?_
  refine zw_aload_n 78 f165_77 rfl rfl ?_
  refine zw_getfield 81 f165_78 rfl g165_105_12 (zg_eq (zg_eq (mb_52 x))) (zg_ne rfl (zg_ne rfl rfl)) ?_
  refine zw_iload_n 82 f165_81 rfl rfl ?_
  refine zw_aload_n 83 f165_82 rfl rfl ?_
  refine zw_getfield 86 f165_83 rfl g165_55_12 (zg_eq (zg_eq (mb_52 x))) (zg_ne rfl (zg_ne rfl rfl)) ?_
  refine zw_iload_n 87 f165_86 rfl rfl ?_
  refine zw_iaload 6 0 88 f165_87 rfl (zg_ne rfl (zg_ne rfl (mb_66 x))) (by decide +kernel) (by decide +kernel) (by decide +kernel) rfl ?_
  refine zw_iastoreS 6 89 f165_88 rfl (zg_ne rfl (zg_ne rfl (mb_80 x))) (by decide +kernel) (by decide +kernel) (by decide +kernel) rfl ?_
  refine zw_iinc 7 [(1, .int 7), (0, .ref 52)] 92 f165_89 rfl rfl (by decide +kernel) (by decide +kernel) rfl ?_
  refine zw_goto 47 f165_92 (by decide +kernel) ?_
  refine zw_iload_n 48 f165_47 rfl rfl ?_
  refine zw_bipush 8 50 f165_48 rfl (by decide +kernel) ?_
  refine zw_ic_ge_f 53 95 f165_50 (by decide +kernel) rfl (by decide +kernel) ?_
  refine zw_aload_n 54 f165_53 rfl rfl ?_
  refine zw_getfield 57 f165_54 rfl g165_96_12 (zg_eq (zg_eq (mb_52 x))) (zg_ne rfl (zg_ne rfl rfl)) ?_
  refine zw_iload_n 58 f165_57 rfl rfl ?_
  refine zw_aload_n 59 f165_58 rfl rfl ?_
  refine zw_getfield 62 f165_59 rfl g165_44_12 (zg_eq (zg_eq (mb_52 x))) (zg_ne rfl (zg_ne rfl rfl)) ?_
  refine zw_iload_n 63 f165_62 rfl rfl ?_
  refine zw_laload 7 0 64 f165_63 rfl (zg_ne rfl (zg_ne rfl (mb_63 x))) (by decide +kernel) (by decide +kernel) (by decide +kernel) rfl ?_
  refine zw_lastoreS 7 65 f165_64 rfl (zg_ne rfl (zg_ne rfl (mb_77 x))) (by decide +kernel) (by decide +kernel) (by decide +kernel) rfl ?_
  refine zw_aload_n 66 f165_65 rfl rfl ?_
  refine zw_getfield 69 f165_66 rfl g165_102_12 (zg_eq (zg_eq (mb_52 x))) (zg_ne rfl (zg_ne rfl rfl)) ?_
  refine zw_iload_n 70 f165_69 rfl rfl ?_
  refine zw_aload_n 71 f165_70 rfl rfl ?_
  refine zw_getfield 74 f165_71 rfl g165_52_12 (zg_eq (zg_eq (mb_52 x))) (zg_ne rfl (zg_ne rfl rfl)) ?_
  refine zw_iload_n 75 f165_74 rfl rfl ?_
  refine zw_baload 7 0 76 f165_75 rfl (zg_ne rfl (zg_ne rfl (mb_65 x))) (by decide +kernel) (by decide +kernel) (by decide +kernel) rfl ?_
  refine zw_bastoreS 7 77 f165_76 rfl (zg_ne rfl (zg_ne rfl (mb_79 x))) (by decide +kernel) (by decide +kernel) (by decide +kernel) (by decide +kernel) ?_
  refine zw_aload_n 78 f165_77 rfl rfl ?_
  refine zw_getfield 81 f165_78 rfl g165_105_12 (zg_eq (zg_eq (mb_52 x))) (zg_ne rfl (zg_ne rfl rfl)) ?_
  refine zw_iload_n 82 f165_81 rfl rfl ?_
  refine zw_aload_n 83 f165_82 rfl rfl ?_
  refine zw_getfield 86 f165_83 rfl g165_55_12 (zg_eq (zg_eq (mb_52 x))) (zg_ne rfl (zg_ne rfl rfl)) ?_
  refine zw_iload_n 87 f165_86 rfl rfl ?_
  refine zw_iaload 7 0 88 f165_87 rfl (zg_ne rfl (zg_ne rfl (mb_66 x))) (by decide +kernel) (by decide +kernel) (by decide +kernel) rfl ?_
  refine zw_iastoreS 7 89 f165_88 rfl (zg_ne rfl (zg_ne rfl (mb_80 x))) (by decide +kernel) (by decide +kernel) (by decide +kernel) rfl ?_
  refine zw_iinc 8 [(1, .int 8), (0, .ref 52)] 92 f165_89 rfl rfl (by decide +kernel) (by decide +kernel) rfl ?_
  refine zw_goto 47 f165_92 (by decide +kernel) ?_
  refine zw_iload_n 48 f165_47 rfl rfl ?_
  refine zw_bipush 8 50 f165_48 rfl (by decide +kernel) ?_
  refine zw_ic_ge_t 95 f165_50 (by decide +kernel) (by decide +kernel) ?_
  refine zw_iconst 0 96 f165_95 rfl (by decide +kernel) ?_
  refine zw_istore_n [(1, .int 0), (0, .ref 52)] 97 f165_96 rfl (by decide +kernel) rfl ?_
  refine zw_iload_n 98 f165_97 rfl rfl ?_
  refine zw_bipush 14 100 f165_98 rfl (by decide +kernel) ?_
  refine zw_ic_ge_f 103 121 f165_100 (by decide +kernel) rfl (by decide +kernel) ?_
  refine zw_aload_n 104 f165_103 rfl rfl ?_
  refine zw_getfield 107 f165_104 rfl g165_99_12 (zg_eq (zg_eq (mb_52 x))) (zg_ne rfl (zg_ne rfl rfl)) ?_
  refine zw_iload_n 108 f165_107 rfl rfl ?_
  refine zw_aload_n 109 f165_108 rfl rfl ?_
  refine zw_getfield 112 f165_109 rfl g165_48_12 (zg_eq (zg_eq (mb_52 x))) (zg_ne rfl (zg_ne rfl rfl)) ?_
  refine zw_iload_n 113 f165_112 rfl rfl ?_
  refine zw_baload 0 0 114 f165_113 rfl (zg_ne rfl (zg_ne rfl (mb_64 x))) (by decide +kernel) (by decide +kernel) (by decide +kernel) rfl ?_
  refine zw_bastoreS 0 115 f165_114 rfl (zg_ne rfl (zg_ne rfl (mb_78 x))) (by decide +kernel) (by decide +kernel) (by decide +kernel) (by decide +kernel) ?_
  refine zw_iinc 1 [(1, .int 1), (0, .ref 52)] 118 f165_115 rfl rfl (by decide +kernel) (by decide +kernel) rfl ?_
  refine zw_goto 97 f165_118 (by decide +kernel) ?_
  refine zw_iload_n 98 f165_97 rfl rfl ?_
  refine zw_bipush 14 100 f165_98 rfl (by decide +kernel) ?_
  refine zw_ic_ge_f 103 121 f165_100 (by decide +kernel) rfl (by decide +kernel) ?_
  refine zw_aload_n 104 f165_103 rfl rfl ?_
  refine zw_getfield 107 f165_104 rfl g165_99_12 (zg_eq (zg_eq (mb_52 x))) (zg_ne rfl (zg_ne rfl rfl)) ?_
  refine zw_iload_n 108 f165_107 rfl rfl ?_
  refine zw_aload_n 109 f165_108 rfl rfl ?_
  refine zw_getfield 112 f165_109 rfl g165_48_12 (zg_eq (zg_eq (mb_52 x))) (zg_ne rfl (zg_ne rfl rfl)) ?_
  refine zw_iload_n 113 f165_112 rfl rfl ?_
  refine zw_baload 1 0 114 f165_113 rfl (zg_ne rfl (zg_ne rfl (mb_64 x))) (by decide +kernel) (by decide +kernel) (by decide +kernel) rfl ?_
  refine zw_bastoreS 1 115 f165_114 rfl (zg_ne rfl (zg_ne rfl (mb_78 x))) (by decide +kernel) (by decide +kernel) (by decide +kernel) (by decide +kernel) ?_
  refine zw_iinc 2 [(1, .int 2), (0, .ref 52)] 118 f165_115 rfl rfl (by decide +kernel) (by decide +kernel) rfl ?_
  refine zw_goto 97 f165_118 (by decide +kernel) ?_
  refine zw_iload_n 98 f165_97 rfl rfl ?_
  refine zw_bipush 14 100 f165_98 rfl (by decide +kernel) ?_
  refine zw_ic_ge_f 103 121 f165_100 (by decide +kernel) rfl (by decide +kernel) ?_
  refine zw_aload_n 104 f165_103 rfl rfl ?_
  refine zw_getfield 107 f165_104 rfl g165_99_12 (zg_eq (zg_eq (mb_52 x))) (zg_ne rfl (zg_ne rfl rfl)) ?_
  refine zw_iload_n 108 f165_107 rfl rfl ?_
  refine zw_aload_n 109 f165_108 rfl rfl ?_
  refine zw_getfield 112 f165_109 rfl g165_48_12 (zg_eq (zg_eq (mb_52 x))) (zg_ne rfl (zg_ne rfl rfl)) ?_
  refine zw_iload_n 113 f165_112 rfl rfl ?_
  refine zw_baload 2 0 114 f165_113 rfl (zg_ne rfl (zg_ne rfl (mb_64 x))) (by decide +kernel) (by decide +kernel) (by decide +kernel) rfl ?_
  refine zw_bastoreS 2 115 f165_114 rfl (zg_ne rfl (zg_ne rfl (mb_78 x))) (by decide +kernel) (by decide +kernel) (by decide +kernel) (by decide +kernel) ?_
  refine zw_iinc 3 [(1, .int 3), (0, .ref 52)] 118 f165_115 rfl rfl (by decide +kernel) (by decide +kernel) rfl ?_
  refine zw_goto 97 f165_118 (by decide +kernel) ?_
  refine zw_iload_n 98 f165_97 rfl rfl ?_
  refine zw_bipush 14 100 f165_98 rfl (by decide +kernel) ?_
  refine zw_ic_ge_f 103 121 f165_100 (by decide +kernel) rfl (by decide +kernel) ?_
  refine zw_aload_n 104 f165_103 rfl rfl ?_
  refine zw_getfield 107 f165_104 rfl g165_99_12 (zg_eq (zg_eq (mb_52 x))) (zg_ne rfl (zg_ne rfl rfl)) ?_
  refine zw_iload_n 108 f165_107 rfl rfl ?_
  refine zw_aload_n 109 f165_108 rfl rfl ?_
  refine zw_getfield 112 f165_109 rfl g165_48_12 (zg_eq (zg_eq (mb_52 x))) (zg_ne rfl (zg_ne rfl rfl)) ?_
  refine zw_iload_n 113 f165_112 rfl rfl ?_
  refine zw_baload 3 0 114 f165_113 rfl (zg_ne rfl (zg_ne rfl (mb_64 x))) (by decide +kernel) (by decide +kernel) (by decide +kernel) rfl ?_
  refine zw_bastoreS 3 115 f165_114 rfl (zg_ne rfl (zg_ne rfl (mb_78 x))) (by decide +kernel) (by decide +kernel) (by decide +kernel) (by decide +kernel) ?_
  refine zw_iinc 4 [(1, .int 4), (0, .ref 52)] 118 f165_115 rfl rfl (by decide +kernel) (by decide +kernel) rfl ?_
  refine zw_goto 97 f165_118 (by decide +kernel) ?_
  refine zw_iload_n 98 f165_97 rfl rfl ?_
  refine zw_bipush 14 100 f165_98 rfl (by decide +kernel) ?_
  refine zw_ic_ge_f 103 121 f165_100 (by decide +kernel) rfl (by decide +kernel) ?_
  refine zw_aload_n 104 f165_103 rfl rfl ?_
  refine zw_getfield 107 f165_104 rfl g165_99_12 (zg_eq (zg_eq (mb_52 x))) (zg_ne rfl (zg_ne rfl rfl)) ?_
  refine zw_iload_n 108 f165_107 rfl rfl ?_
  refine zw_aload_n 109 f165_108 rfl rfl ?_
  refine zw_getfield 112 f165_109 rfl g165_48_12 (zg_eq (zg_eq (mb_52 x))) (zg_ne rfl (zg_ne rfl rfl)) ?_
  refine zw_iload_n 113 f165_112 rfl rfl ?_
  refine zw_baload 4 0 114 f165_113 rfl (zg_ne rfl (zg_ne rfl (mb_64 x))) (by decide +kernel) (by decide +kernel) (by decide +kernel) rfl ?_
  refine zw_bastoreS 4 115 f165_114 rfl (zg_ne rfl (zg_ne rfl (mb_78 x))) (by decide +kernel) (by decide +kernel) (by decide +kernel) (by decide +kernel) ?_
  refine zw_iinc 5 [(1, .int 5), (0, .ref 52)] 118 f165_115 rfl rfl (by decide +kernel) (by decide +kernel) rfl ?_
  refine zw_goto 97 f165_118 (by decide +kernel) ?_
  refine zw_iload_n 98 f165_97 rfl rfl ?_
  refine zw_bipush 14 100 f165_98 rfl (by decide +kernel) ?_
  refine zw_ic_ge_f 103 121 f165_100 (by decide +kernel) rfl (by decide +kernel) ?_
  refine zw_aload_n 104 f165_103 rfl rfl ?_
  refine zw_getfield 107 f165_104 rfl g165_99_12 (zg_eq (zg_eq (mb_52 x))) (zg_ne rfl (zg_ne rfl rfl)) ?_
  refine zw_iload_n 108 f165_107 rfl rfl ?_
  refine zw_aload_n 109 f165_108 rfl rfl ?_
  refine zw_getfield 112 f165_109 rfl g165_48_12 (zg_eq (zg_eq (mb_52 x))) (zg_ne rfl (zg_ne rfl rfl)) ?_
  refine zw_iload_n 113 f165_112 rfl rfl ?_
  refine zw_baload 5 0 114 f165_113 rfl (zg_ne rfl (zg_ne rfl (mb_64 x))) (by decide +kernel) (by decide +kernel) (by decide +kernel) rfl ?_
  refine zw_bastoreS 5 115 f165_114 rfl (zg_ne rfl (zg_ne rfl (mb_78 x))) (by decide +kernel) (by decide +kernel) (by decide +kernel) (by decide +kernel) ?_
  refine zw_iinc 6 [(1, .int 6), (0, .ref 52)] 118 f165_115 rfl rfl (by decide +kernel) (by decide +kernel) rfl ?_
  refine zw_goto 97 f165_118 (by decide +kernel) ?_
  refine zw_iload_n 98 f165_97 rfl rfl ?_
  refine zw_bipush 14 100 f165_98 rfl (by decide +kernel) ?_
  refine zw_ic_ge_f 103 121 f165_100 (by decide +kernel) rfl (by decide +kernel) ?_
  refine zw_aload_n 104 f165_103 rfl rfl ?_
  refine zw_getfield 107 f165_104 rfl g165_99_12 (zg_eq (zg_eq (mb_52 x))) (zg_ne rfl (zg_ne rfl rfl)) ?_
  refine zw_iload_n 108 f165_107 rfl rfl ?_
  refine zw_aload_n 109 f165_108 rfl rfl ?_
  refine zw_getfield 112 f165_109 rfl g165_48_12 (zg_eq (zg_eq (mb_52 x))) (zg_ne rfl (zg_ne rfl rfl)) ?_
  refine zw_iload_n 113 f165_112 rfl rfl ?_
  refine zw_baload 6 0 114 f165_113 rfl (zg_ne rfl (zg_ne rfl (mb_64 x))) (by decide +kernel) (by decide +kernel) (by decide +kernel) rfl ?_
  refine zw_bastoreS 6 115 f165_114 rfl (zg_ne rfl (zg_ne rfl (mb_78 x))) (by decide +kernel) (by decide +kernel) (by decide +kernel) (by decide +kernel) ?_
  refine zw_iinc 7 [(1, .int 7), (0, .ref 52)] 118 f165_115 rfl rfl (by decide +kernel) (by decide +kernel) rfl ?_
  refine zw_goto 97 f165_118 (by decide +kernel) ?_
  refine zw_iload_n 98 f165_97 rfl rfl ?_
  refine zw_bipush 14 100 f165_98 rfl (by decide +kernel) ?_
  refine zw_ic_ge_f 103 121 f165_100 (by decide +kernel) rfl (by decide +kernel) ?_
  refine zw_aload_n 104 f165_103 rfl rfl ?_
  refine zw_getfield 107 f165_104 rfl g165_99_12 (zg_eq (zg_eq (mb_52 x))) (zg_ne rfl (zg_ne rfl rfl)) ?_
  refine zw_iload_n 108 f165_107 rfl rfl ?_
  refine zw_aload_n 109 f165_108 rfl rfl ?_
  refine zw_getfield 112 f165_109 rfl g165_48_12 (zg_eq (zg_eq (mb_52 x))) (zg_ne rfl (zg_ne rfl rfl)) ?_
  refine zw_iload_n 113 f165_112 rfl rfl ?_
  refine zw_baload 7 0 114 f165_113 rfl (zg_ne rfl (zg_ne rfl (mb_64 x))) (by decide +kernel) (by decide +kernel) (by decide +kernel) rfl ?_
  refine zw_bastoreS 7 115 f165_114 rfl (zg_ne rfl (zg_ne rfl (mb_78 x))) (by decide +kernel) (by decide +kernel) (by decide +kernel) (by decide +kernel) ?_
  refine zw_iinc 8 [(1, .int 8), (0, .ref 52)] 118 f165_115 rfl rfl (by decide +kernel) (by decide +kernel) rfl ?_
  refine zw_goto 97 f165_118 (by decide +kernel) ?_
  refine zw_iload_n 98 f165_97 rfl rfl ?_
  refine zw_bipush 14 100 f165_98 rfl (by decide +kernel) ?_
  refine zw_ic_ge_f 103 121 f165_100 (by decide +kernel) rfl (by decide +kernel) ?_
  refine zw_aload_n 104 f165_103 rfl rfl ?_
  refine zw_getfield 107 f165_104 rfl g165_99_12 (zg_eq (zg_eq (mb_52 x))) (zg_ne rfl (zg_ne rfl rfl)) ?_
  refine zw_iload_n 108 f165_107 rfl rfl ?_
  refine zw_aload_n 109 f165_108 rfl rfl ?_
  refine zw_getfield 112 f165_109 rfl g165_48_12 (zg_eq (zg_eq (mb_52 x))) (zg_ne rfl (zg_ne rfl rfl)) ?_
  refine zw_iload_n 113 f165_112 rfl rfl ?_
  refine zw_baload 8 0 114 f165_113 rfl (zg_ne rfl (zg_ne rfl (mb_64 x))) (by decide +kernel) (by decide +kernel) (by decide +kernel) rfl ?_
  refine zw_bastoreS 8 115 f165_114 rfl (zg_ne rfl (zg_ne rfl (mb_78 x))) (by decide +kernel) (by decide +kernel) (by decide +kernel) (by decide +kernel) ?_
  refine zw_iinc 9 [(1, .int 9), (0, .ref 52)] 118 f165_115 rfl rfl (by decide +kernel) (by decide +kernel) rfl ?_
  refine zw_goto 97 f165_118 (by decide +kernel) ?_
  refine zw_iload_n 98 f165_97 rfl rfl ?_
  refine zw_bipush 14 100 f165_98 rfl (by decide +kernel) ?_
  refine zw_ic_ge_f 103 121 f165_100 (by decide +kernel) rfl (by decide +kernel) ?_
  refine zw_aload_n 104 f165_103 rfl rfl ?_
  refine zw_getfield 107 f165_104 rfl g165_99_12 (zg_eq (zg_eq (mb_52 x))) (zg_ne rfl (zg_ne rfl rfl)) ?_
  refine zw_iload_n 108 f165_107 rfl rfl ?_
  refine zw_aload_n 109 f165_108 rfl rfl ?_
  refine zw_getfield 112 f165_109 rfl g165_48_12 (zg_eq (zg_eq (mb_52 x))) (zg_ne rfl (zg_ne rfl rfl)) ?_
  refine zw_iload_n 113 f165_112 rfl rfl ?_
  refine zw_baload 9 0 114 f165_113 rfl (zg_ne rfl (zg_ne rfl (mb_64 x))) (by decide +kernel) (by decide +kernel) (by decide +kernel) rfl ?_
  refine zw_bastoreS 9 115 f165_114 rfl (zg_ne rfl (zg_ne rfl (mb_78 x))) (by decide +kernel) (by decide +kernel) (by decide +kernel) (by decide +kernel) ?_
  refine zw_iinc 10 [(1, .int 10), (0, .ref 52)] 118 f165_115 rfl rfl (by decide +kernel) (by decide +kernel) rfl ?_
  refine zw_goto 97 f165_118 (by decide +kernel) ?_
  refine zw_iload_n 98 f165_97 rfl rfl ?_
  refine zw_bipush 14 100 f165_98 rfl (by decide +kernel) ?_
  refine zw_ic_ge_f 103 121 f165_100 (by decide +kernel) rfl (by decide +kernel) ?_
  refine zw_aload_n 104 f165_103 rfl rfl ?_
  refine zw_getfield 107 f165_104 rfl g165_99_12 (zg_eq (zg_eq (mb_52 x))) (zg_ne rfl (zg_ne rfl rfl)) ?_
  refine zw_iload_n 108 f165_107 rfl rfl ?_
  refine zw_aload_n 109 f165_108 rfl rfl ?_
  refine zw_getfield 112 f165_109 rfl g165_48_12 (zg_eq (zg_eq (mb_52 x))) (zg_ne rfl (zg_ne rfl rfl)) ?_
  refine zw_iload_n 113 f165_112 rfl rfl ?_
  refine zw_baload 10 0 114 f165_113 rfl (zg_ne rfl (zg_ne rfl (mb_64 x))) (by decide +kernel) (by decide +kernel) (by decide +kernel) rfl ?_
  refine zw_bastoreS 10 115 f165_114 rfl (zg_ne rfl (zg_ne rfl (mb_78 x))) (by decide +kernel) (by decide +kernel) (by decide +kernel) (by decide +kernel) ?_
  refine zw_iinc 11 [(1, .int 11), (0, .ref 52)] 118 f165_115 rfl rfl (by decide +kernel) (by decide +kernel) rfl ?_
  refine zw_goto 97 f165_118 (by decide +kernel) ?_
  refine zw_iload_n 98 f165_97 rfl rfl ?_
  refine zw_bipush 14 100 f165_98 rfl (by decide +kernel) ?_
  refine zw_ic_ge_f 103 121 f165_100 (by decide +kernel) rfl (by decide +kernel) ?_
  refine zw_aload_n 104 f165_103 rfl rfl ?_
  refine zw_getfield 107 f165_104 rfl g165_99_12 (zg_eq (zg_eq (mb_52 x))) (zg_ne rfl (zg_ne rfl rfl)) ?_
  refine zw_iload_n 108 f165_107 rfl rfl ?_
  refine zw_aload_n 109 f165_108 rfl rfl ?_
  refine zw_getfield 112 f165_109 rfl g165_48_12 (zg_eq (zg_eq (mb_52 x))) (zg_ne rfl (zg_ne rfl rfl)) ?_
  refine zw_iload_n 113 f165_112 rfl rfl ?_
  refine zw_baload 11 0 114 f165_113 rfl (zg_ne rfl (zg_ne rfl (mb_64 x))) (by decide +kernel) (by decide +kernel) (by decide +kernel) rfl ?_
  refine zw_bastoreS 11 115 f165_114 rfl (zg_ne rfl (zg_ne rfl (mb_78 x))) (by decide +kernel) (by decide +kernel) (by decide +kernel) (by decide +kernel) ?_
  refine zw_iinc 12 [(1, .int 12), (0, .ref 52)] 118 f165_115 rfl rfl (by decide +kernel) (by decide +kernel) rfl ?_
  refine zw_goto 97 f165_118 (by decide +kernel) ?_
  refine zw_iload_n 98 f165_97 rfl rfl ?_
  refine zw_bipush 14 100 f165_98 rfl (by decide +kernel) ?_
  refine zw_ic_ge_f 103 121 f165_100 (by decide +kernel) rfl (by decide +kernel) ?_
  refine zw_aload_n 104 f165_103 rfl rfl ?_
  refine zw_getfield 107 f165_104 rfl g165_99_12 (zg_eq (zg_eq (mb_52 x))) (zg_ne rfl (zg_ne rfl rfl)) ?_
  refine zw_iload_n 108 f165_107 rfl rfl ?_
  refine zw_aload_n 109 f165_108 rfl rfl ?_
  refine zw_getfield 112 f165_109 rfl g165_48_12 (zg_eq (zg_eq (mb_52 x))) (zg_ne rfl (zg_ne rfl rfl)) ?_
  refine zw_iload_n 113 f165_112 rfl rfl ?_
  refine zw_baload 12 0 114 f165_113 rfl (zg_ne rfl (zg_ne rfl (mb_64 x))) (by decide +kernel) (by decide +kernel) (by decide +kernel) rfl ?_
  refine zw_bastoreS 12 115 f165_114 rfl (zg_ne rfl (zg_ne rfl (mb_78 x))) (by decide +kernel) (by decide +kernel) (by decide +kernel) (by decide +kernel) ?_
  refine zw_iinc 13 [(1, .int 13), (0, .ref 52)] 118 f165_115 rfl rfl (by decide +kernel) (by decide +kernel) rfl ?_
  refine zw_goto 97 f165_118 (by decide +kernel) ?_
  refine zw_iload_n 98 f165_97 rfl rfl ?_
  refine zw_bipush 14 100 f165_98 rfl (by decide +kernel) ?_
  refine zw_ic_ge_f 103 121 f165_100 (by decide +kernel) rfl (by decide +kernel) ?_
  refine zw_aload_n 104 f165_103 rfl rfl ?_
  refine zw_getfield 107 f165_104 rfl g165_99_12 (zg_eq (zg_eq (mb_52 x))) (zg_ne rfl (zg_ne rfl rfl)) ?_
  refine zw_iload_n 108 f165_107 rfl rfl ?_
  refine zw_aload_n 109 f165_108 rfl rfl ?_
  refine zw_getfield 112 f165_109 rfl g165_48_12 (zg_eq (zg_eq (mb_52 x))) (zg_ne rfl (zg_ne rfl rfl)) ?_
  refine zw_iload_n 113 f165_112 rfl rfl ?_
  refine zw_baload 13 0 114 f165_113 rfl (zg_ne rfl (zg_ne rfl (mb_64 x))) (by decide +kernel) (by decide +kernel) (by decide +kernel) rfl ?_
  refine zw_bastoreS 13 115 f165_114 rfl (zg_ne rfl (zg_ne rfl (mb_78 x))) (by decide +kernel) (by decide +kernel) (by decide +kernel) (by decide +kernel) ?_
  refine zw_iinc 14 [(1, .int 14), (0, .ref 52)] 118 f165_115 rfl rfl (by decide +kernel) (by decide +kernel) rfl ?_
  refine zw_goto 97 f165_118 (by decide +kernel) ?_
  refine zw_iload_n 98 f165_97 rfl rfl ?_
  refine zw_bipush 14 100 f165_98 rfl (by decide +kernel) ?_
  refine zw_ic_ge_t 121 f165_100 (by decide +kernel) (by decide +kernel) ?_
  refine zw_vreturn f165_121 r165 u165 ⟨rfl, ?_⟩
  refine zw_aload_n 16 f170_15 rfl rfl ?_
  refine zw_virtual_i 19 0 0 [.ref 52] [(0, .ref 52)] f170_16 rfl n170_281 k170_281_12 rfl (zg_eq (zg_eq (mb_52 x))) (by decide +kernel) (Nat.le_of_ble_eq_true rfl) rfl rfl (by decide +kernel) (by decide +kernel) rfl (Nat.le_of_ble_eq_true rfl) rfl ?_
  refine zw_aload_n 1 f169_0 rfl rfl ?_
  refine zw_iconst 0 2 f169_1 rfl (by decide +kernel) ?_
  refine zw_virtual_v 5 0 0 [.ref 52, .int 0] [(0, .ref 52), (1, .int 0)] f169_2 rfl n169_264 k169_264_12 rfl (zg_eq (zg_eq (mb_52 x))) (by decide +kernel) (Nat.le_of_ble_eq_true rfl) rfl rfl (by decide +kernel) (by decide +kernel) rfl (Nat.le_of_ble_eq_true rfl) rfl ?_
  refine zw_lconst 0 1 f167_0 rfl (by decide +kernel) ?_
  refine zw_lstore_n [(2, .long 0), (0, .ref 52), (1, .int 0)] 2 f167_1 rfl (by decide +kernel) rfl ?_
  refine zw_iconst 0 3 f167_2 rfl (by decide +kernel) ?_
  refine zw_istore [(4, .int 0), (2, .long 0), (0, .ref 52), (1, .int 0)] 5 f167_3 rfl (by decide +kernel) rfl ?_
  refine zw_iload 7 f167_5 rfl rfl ?_
  refine zw_bipush 14 9 f167_7 rfl (by decide +kernel) ?_
  refine zw_ic_ge_f 12 39 f167_9 (by decide +kernel) rfl (by decide +kernel) ?_
  refine zw_lload_n 13 f167_12 rfl rfl ?_
  refine zw_aload_n 14 f167_13 rfl rfl ?_
  refine zw_getfield 17 f167_14 rfl g167_48_12 (zg_eq (zg_eq (mb_52 x))) (zg_ne rfl (zg_ne rfl rfl)) ?_
  refine zw_iload 19 f167_17 rfl rfl ?_
  refine zw_baload 0 0 20 f167_19 rfl (zg_ne rfl (zg_ne rfl (mb_64 x))) (by decide +kernel) (by decide +kernel) (by decide +kernel) rfl ?_
  refine zw_if_eq_t 30 f167_20 (by decide +kernel) (by decide +kernel) ?_
  refine zw_lconst 0 31 f167_30 rfl (by decide +kernel) ?_
  refine zw_lor 0 32 f167_31 rfl (by decide +kernel) ?_
  refine zw_lstore_n [(2, .long 0), (4, .int 0), (0, .ref 52), (1, .int 0)] 33 f167_32 rfl (by decide +kernel) rfl ?_
  refine zw_iinc 1 [(4, .int 1), (2, .long 0), (0, .ref 52), (1, .int 0)] 36 f167_33 rfl rfl (by decide +kernel) (by decide +kernel) rfl ?_
  refine zw_goto 5 f167_36 (by decide +kernel) ?_
  refine zw_iload 7 f167_5 rfl rfl ?_
  refine zw_bipush 14 9 f167_7 rfl (by decide +kernel) ?_
  refine zw_ic_ge_f 12 39 f167_9 (by decide +kernel) rfl (by decide +kernel) ?_
  refine zw_lload_n 13 f167_12 rfl rfl ?_
  refine zw_aload_n 14 f167_13 rfl rfl ?_
  refine zw_getfield 17 f167_14 rfl g167_48_12 (zg_eq (zg_eq (mb_52 x))) (zg_ne rfl (zg_ne rfl rfl)) ?_
  refine zw_iload 19 f167_17 rfl rfl ?_
  refine zw_baload 1 0 20 f167_19 rfl (zg_ne rfl (zg_ne rfl (mb_64 x))) (by decide +kernel) (by decide +kernel) (by decide +kernel) rfl ?_
  refine zw_if_eq_t 30 f167_20 (by decide +kernel) (by decide +kernel) ?_
  refine zw_lconst 0 31 f167_30 rfl (by decide +kernel) ?_
  refine zw_lor 0 32 f167_31 rfl (by decide +kernel) ?_
  refine zw_lstore_n [(2, .long 0), (4, .int 1), (0, .ref 52), (1, .int 0)] 33 f167_32 rfl (by decide +kernel) rfl ?_
  refine zw_iinc 2 [(4, .int 2), (2, .long 0), (0, .ref 52), (1, .int 0)] 36 f167_33 rfl rfl (by decide +kernel) (by decide +kernel) rfl ?_
  refine zw_goto 5 f167_36 (by decide +kernel) ?_
  refine zw_iload 7 f167_5 rfl rfl ?_
  refine zw_bipush 14 9 f167_7 rfl (by decide +kernel) ?_
  refine zw_ic_ge_f 12 39 f167_9 (by decide +kernel) rfl (by decide +kernel) ?_
  refine zw_lload_n 13 f167_12 rfl rfl ?_
  refine zw_aload_n 14 f167_13 rfl rfl ?_
  refine zw_getfield 17 f167_14 rfl g167_48_12 (zg_eq (zg_eq (mb_52 x))) (zg_ne rfl (zg_ne rfl rfl)) ?_
  refine zw_iload 19 f167_17 rfl rfl ?_
  refine zw_baload 2 0 20 f167_19 rfl (zg_ne rfl (zg_ne rfl (mb_64 x))) (by decide +kernel) (by decide +kernel) (by decide +kernel) rfl ?_
  refine zw_if_eq_t 30 f167_20 (by decide +kernel) (by decide +kernel) ?_
  refine zw_lconst 0 31 f167_30 rfl (by decide +kernel) ?_
  refine zw_lor 0 32 f167_31 rfl (by decide +kernel) ?_
  refine zw_lstore_n [(2, .long 0), (4, .int 2), (0, .ref 52), (1, .int 0)] 33 f167_32 rfl (by decide +kernel) rfl ?_
  refine zw_iinc 3 [(4, .int 3), (2, .long 0), (0, .ref 52), (1, .int 0)] 36 f167_33 rfl rfl (by decide +kernel) (by decide +kernel) rfl ?_
  refine zw_goto 5 f167_36 (by decide +kernel) ?_
  refine zw_iload 7 f167_5 rfl rfl ?_
  refine zw_bipush 14 9 f167_7 rfl (by decide +kernel) ?_
  refine zw_ic_ge_f 12 39 f167_9 (by decide +kernel) rfl (by decide +kernel) ?_
  refine zw_lload_n 13 f167_12 rfl rfl ?_
  refine zw_aload_n 14 f167_13 rfl rfl ?_
  refine zw_getfield 17 f167_14 rfl g167_48_12 (zg_eq (zg_eq (mb_52 x))) (zg_ne rfl (zg_ne rfl rfl)) ?_
  refine zw_iload 19 f167_17 rfl rfl ?_
  refine zw_baload 3 0 20 f167_19 rfl (zg_ne rfl (zg_ne rfl (mb_64 x))) (by decide +kernel) (by decide +kernel) (by decide +kernel) rfl ?_
  refine zw_if_eq_t 30 f167_20 (by decide +kernel) (by decide +kernel) ?_
  refine zw_lconst 0 31 f167_30 rfl (by decide +kernel) ?_
  refine zw_lor 0 32 f167_31 rfl (by decide +kernel) ?_
  refine zw_lstore_n [(2, .long 0), (4, .int 3), (0, .ref 52), (1, .int 0)] 33 f167_32 rfl (by decide +kernel) rfl ?_
  refine zw_iinc 4 [(4, .int 4), (2, .long 0), (0, .ref 52), (1, .int 0)] 36 f167_33 rfl rfl (by decide +kernel) (by decide +kernel) rfl ?_
  refine zw_goto 5 f167_36 (by decide +kernel) ?_
  refine zw_iload 7 f167_5 rfl rfl ?_
  refine zw_bipush 14 9 f167_7 rfl (by decide +kernel) ?_
  refine zw_ic_ge_f 12 39 f167_9 (by decide +kernel) rfl (by decide +kernel) ?_
  refine zw_lload_n 13 f167_12 rfl rfl ?_
  refine zw_aload_n 14 f167_13 rfl rfl ?_
  refine zw_getfield 17 f167_14 rfl g167_48_12 (zg_eq (zg_eq (mb_52 x))) (zg_ne rfl (zg_ne rfl rfl)) ?_
  refine zw_iload 19 f167_17 rfl rfl ?_
  refine zw_baload 4 0 20 f167_19 rfl (zg_ne rfl (zg_ne rfl (mb_64 x))) (by decide +kernel) (by decide +kernel) (by decide +kernel) rfl ?_
  refine zw_if_eq_t 30 f167_20 (by decide +kernel) (by decide +kernel) ?_
  refine zw_lconst 0 31 f167_30 rfl (by decide +kernel) ?_
  refine zw_lor 0 32 f167_31 rfl (by decide +kernel) ?_
  refine zw_lstore_n [(2, .long 0), (4, .int 4), (0, .ref 52), (1, .int 0)] 33 f167_32 rfl (by decide +kernel) rfl ?_
  refine zw_iinc 5 [(4, .int 5), (2, .long 0), (0, .ref 52), (1, .int 0)] 36 f167_33 rfl rfl (by decide +kernel) (by decide +kernel) rfl ?_
  refine zw_goto 5 f167_36 (by decide +kernel) ?_
  refine zw_iload 7 f167_5 rfl rfl ?_
  refine zw_bipush 14 9 f167_7 rfl (by decide +kernel) ?_
  refine zw_ic_ge_f 12 39 f167_9 (by decide +kernel) rfl (by decide +kernel) ?_
  refine zw_lload_n 13 f167_12 rfl rfl ?_
  refine zw_aload_n 14 f167_13 rfl rfl ?_
  refine zw_getfield 17 f167_14 rfl g167_48_12 (zg_eq (zg_eq (mb_52 x))) (zg_ne rfl (zg_ne rfl rfl)) ?_
  refine zw_iload 19 f167_17 rfl rfl ?_
  refine zw_baload 5 0 20 f167_19 rfl (zg_ne rfl (zg_ne rfl (mb_64 x))) (by decide +kernel) (by decide +kernel) (by decide +kernel) rfl ?_
  refine zw_if_eq_t 30 f167_20 (by decide +kernel) (by decide +kernel) ?_
  refine zw_lconst 0 31 f167_30 rfl (by decide +kernel) ?_
  refine zw_lor 0 32 f167_31 rfl (by decide +kernel) ?_
  refine zw_lstore_n [(2, .long 0), (4, .int 5), (0, .ref 52), (1, .int 0)] 33 f167_32 rfl (by decide +kernel) rfl ?_
  refine zw_iinc 6 [(4, .int 6), (2, .long 0), (0, .ref 52), (1, .int 0)] 36 f167_33 rfl rfl (by decide +kernel) (by decide +kernel) rfl ?_
  refine zw_goto 5 f167_36 (by decide +kernel) ?_
  refine zw_iload 7 f167_5 rfl rfl ?_
  refine zw_bipush 14 9 f167_7 rfl (by decide +kernel) ?_
  refine zw_ic_ge_f 12 39 f167_9 (by decide +kernel) rfl (by decide +kernel) ?_
  refine zw_lload_n 13 f167_12 rfl rfl ?_
  refine zw_aload_n 14 f167_13 rfl rfl ?_
  refine zw_getfield 17 f167_14 rfl g167_48_12 (zg_eq (zg_eq (mb_52 x))) (zg_ne rfl (zg_ne rfl rfl)) ?_
  refine zw_iload 19 f167_17 rfl rfl ?_
  refine zw_baload 6 0 20 f167_19 rfl (zg_ne rfl (zg_ne rfl (mb_64 x))) (by decide +kernel) (by decide +kernel) (by decide +kernel) rfl ?_
  refine zw_if_eq_t 30 f167_20 (by decide +kernel) (by decide +kernel) ?_
  refine zw_lconst 0 31 f167_30 rfl (by decide +kernel) ?_
  refine zw_lor 0 32 f167_31 rfl (by decide +kernel) ?_
  refine zw_lstore_n [(2, .long 0), (4, .int 6), (0, .ref 52), (1, .int 0)] 33 f167_32 rfl (by decide +kernel) rfl ?_
  refine zw_iinc 7 [(4, .int 7), (2, .long 0), (0, .ref 52), (1, .int 0)] 36 f167_33 rfl rfl (by decide +kernel) (by decide +kernel) rfl ?_
  refine zw_goto 5 f167_36 (by decide +kernel) ?_
  refine zw_iload 7 f167_5 rfl rfl ?_
  refine zw_bipush 14 9 f167_7 rfl (by decide +kernel) ?_
  refine zw_ic_ge_f 12 39 f167_9 (by decide +kernel) rfl (by decide +kernel) ?_
  refine zw_lload_n 13 f167_12 rfl rfl ?_
  refine zw_aload_n 14 f167_13 rfl rfl ?_
  refine zw_getfield 17 f167_14 rfl g167_48_12 (zg_eq (zg_eq (mb_52 x))) (zg_ne rfl (zg_ne rfl rfl)) ?_
  refine zw_iload 19 f167_17 rfl rfl ?_
  refine zw_baload 7 0 20 f167_19 rfl (zg_ne rfl (zg_ne rfl (mb_64 x))) (by decide +kernel) (by decide +kernel) (by decide +kernel) rfl ?_
  refine zw_if_eq_t 30 f167_20 (by decide +kernel) (by decide +kernel) ?_
  refine zw_lconst 0 31 f167_30 rfl (by decide +kernel) ?_
  refine zw_lor 0 32 f167_31 rfl (by decide +kernel) ?_
  refine zw_lstore_n [(2, .long 0), (4, .int 7), (0, .ref 52), (1, .int 0)] 33 f167_32 rfl (by decide +kernel) rfl ?_
  refine zw_iinc 8 [(4, .int 8), (2, .long 0), (0, .ref 52), (1, .int 0)] 36 f167_33 rfl rfl (by decide +kernel) (by decide +kernel) rfl ?_
  refine zw_goto 5 f167_36 (by decide +kernel) ?_
  refine zw_iload 7 f167_5 rfl rfl ?_
  refine zw_bipush 14 9 f167_7 rfl (by decide +kernel) ?_
  refine zw_ic_ge_f 12 39 f167_9 (by decide +kernel) rfl (by decide +kernel) ?_
  refine zw_lload_n 13 f167_12 rfl rfl ?_
  refine zw_aload_n 14 f167_13 rfl rfl ?_
  refine zw_getfield 17 f167_14 rfl g167_48_12 (zg_eq (zg_eq (mb_52 x))) (zg_ne rfl (zg_ne rfl rfl)) ?_
  refine zw_iload 19 f167_17 rfl rfl ?_
  refine zw_baload 8 0 20 f167_19 rfl (zg_ne rfl (zg_ne rfl (mb_64 x))) (by decide +kernel) (by decide +kernel) (by decide +kernel) rfl ?_
  refine zw_if_eq_t 30 f167_20 (by decide +kernel) (by decide +kernel) ?_
  refine zw_lconst 0 31 f167_30 rfl (by decide +kernel) ?_
  refine zw_lor 0 32 f167_31 rfl (by decide +kernel) ?_
  refine zw_lstore_n [(2, .long 0), (4, .int 8), (0, .ref 52), (1, .int 0)] 33 f167_32 rfl (by decide +kernel) rfl ?_
  refine zw_iinc 9 [(4, .int 9), (2, .long 0), (0, .ref 52), (1, .int 0)] 36 f167_33 rfl rfl (by decide +kernel) (by decide +kernel) rfl ?_
  refine zw_goto 5 f167_36 (by decide +kernel) ?_
  refine zw_iload 7 f167_5 rfl rfl ?_
  refine zw_bipush 14 9 f167_7 rfl (by decide +kernel) ?_
  refine zw_ic_ge_f 12 39 f167_9 (by decide +kernel) rfl (by decide +kernel) ?_
  refine zw_lload_n 13 f167_12 rfl rfl ?_
  refine zw_aload_n 14 f167_13 rfl rfl ?_
  refine zw_getfield 17 f167_14 rfl g167_48_12 (zg_eq (zg_eq (mb_52 x))) (zg_ne rfl (zg_ne rfl rfl)) ?_
  refine zw_iload 19 f167_17 rfl rfl ?_
  refine zw_baload 9 0 20 f167_19 rfl (zg_ne rfl (zg_ne rfl (mb_64 x))) (by decide +kernel) (by decide +kernel) (by decide +kernel) rfl ?_
  refine zw_if_eq_t 30 f167_20 (by decide +kernel) (by decide +kernel) ?_
  refine zw_lconst 0 31 f167_30 rfl (by decide +kernel) ?_
  refine zw_lor 0 32 f167_31 rfl (by decide +kernel) ?_
  refine zw_lstore_n [(2, .long 0), (4, .int 9), (0, .ref 52), (1, .int 0)] 33 f167_32 rfl (by decide +kernel) rfl ?_
  refine zw_iinc 10 [(4, .int 10), (2, .long 0), (0, .ref 52), (1, .int 0)] 36 f167_33 rfl rfl (by decide +kernel) (by decide +kernel) rfl ?_
  refine zw_goto 5 f167_36 (by decide +kernel) ?_
  refine zw_iload 7 f167_5 rfl rfl ?_
  refine zw_bipush 14 9 f167_7 rfl (by decide +kernel) ?_
  refine zw_ic_ge_f 12 39 f167_9 (by decide +kernel) rfl (by decide +kernel) ?_
  refine zw_lload_n 13 f167_12 rfl rfl ?_
  refine zw_aload_n 14 f167_13 rfl rfl ?_
  refine zw_getfield 17 f167_14 rfl g167_48_12 (zg_eq (zg_eq (mb_52 x))) (zg_ne rfl (zg_ne rfl rfl)) ?_
  refine zw_iload 19 f167_17 rfl rfl ?_
  refine zw_baload 10 0 20 f167_19 rfl (zg_ne rfl (zg_ne rfl (mb_64 x))) (by decide +kernel) (by decide +kernel) (by decide +kernel) rfl ?_
  refine zw_if_eq_t 30 f167_20 (by decide +kernel) (by decide +kernel) ?_
  refine zw_lconst 0 31 f167_30 rfl (by decide +kernel) ?_
  refine zw_lor 0 32 f167_31 rfl (by decide +kernel) ?_
  refine zw_lstore_n [(2, .long 0), (4, .int 10), (0, .ref 52), (1, .int 0)] 33 f167_32 rfl (by decide +kernel) rfl ?_
  refine zw_iinc 11 [(4, .int 11), (2, .long 0), (0, .ref 52), (1, .int 0)] 36 f167_33 rfl rfl (by decide +kernel) (by decide +kernel) rfl ?_
  refine zw_goto 5 f167_36 (by decide +kernel) ?_
  refine zw_iload 7 f167_5 rfl rfl ?_
  refine zw_bipush 14 9 f167_7 rfl (by decide +kernel) ?_
  refine zw_ic_ge_f 12 39 f167_9 (by decide +kernel) rfl (by decide +kernel) ?_
  refine zw_lload_n 13 f167_12 rfl rfl ?_
  refine zw_aload_n 14 f167_13 rfl rfl ?_
  refine zw_getfield 17 f167_14 rfl g167_48_12 (zg_eq (zg_eq (mb_52 x))) (zg_ne rfl (zg_ne rfl rfl)) ?_
  refine zw_iload 19 f167_17 rfl rfl ?_
  refine zw_baload 11 0 20 f167_19 rfl (zg_ne rfl (zg_ne rfl (mb_64 x))) (by decide +kernel) (by decide +kernel) (by decide +kernel) rfl ?_
  refine zw_if_eq_t 30 f167_20 (by decide +kernel) (by decide +kernel) ?_
  refine zw_lconst 0 31 f167_30 rfl (by decide +kernel) ?_
  refine zw_lor 0 32 f167_31 rfl (by decide +kernel) ?_
  refine zw_lstore_n [(2, .long 0), (4, .int 11), (0, .ref 52), (1, .int 0)] 33 f167_32 rfl (by decide +kernel) rfl ?_
  refine zw_iinc 12 [(4, .int 12), (2, .long 0), (0, .ref 52), (1, .int 0)] 36 f167_33 rfl rfl (by decide +kernel) (by decide +kernel) rfl ?_
  refine zw_goto 5 f167_36 (by decide +kernel) ?_
  refine zw_iload 7 f167_5 rfl rfl ?_
  refine zw_bipush 14 9 f167_7 rfl (by decide +kernel) ?_
  refine zw_ic_ge_f 12 39 f167_9 (by decide +kernel) rfl (by decide +kernel) ?_
  refine zw_lload_n 13 f167_12 rfl rfl ?_
  refine zw_aload_n 14 f167_13 rfl rfl ?_
  refine zw_getfield 17 f167_14 rfl g167_48_12 (zg_eq (zg_eq (mb_52 x))) (zg_ne rfl (zg_ne rfl rfl)) ?_
  refine zw_iload 19 f167_17 rfl rfl ?_
  refine zw_baload 12 0 20 f167_19 rfl (zg_ne rfl (zg_ne rfl (mb_64 x))) (by decide +kernel) (by decide +kernel) (by decide +kernel) rfl ?_
  refine zw_if_eq_t 30 f167_20 (by decide +kernel) (by decide +kernel) ?_
  refine zw_lconst 0 31 f167_30 rfl (by decide +kernel) ?_
  refine zw_lor 0 32 f167_31 rfl (by decide +kernel) ?_
  refine zw_lstore_n [(2, .long 0), (4, .int 12), (0, .ref 52), (1, .int 0)] 33 f167_32 rfl (by decide +kernel) rfl ?_
  refine zw_iinc 13 [(4, .int 13), (2, .long 0), (0, .ref 52), (1, .int 0)] 36 f167_33 rfl rfl (by decide +kernel) (by decide +kernel) rfl ?_
  refine zw_goto 5 f167_36 (by decide +kernel) ?_
  refine zw_iload 7 f167_5 rfl rfl ?_
  refine zw_bipush 14 9 f167_7 rfl (by decide +kernel) ?_
  refine zw_ic_ge_f 12 39 f167_9 (by decide +kernel) rfl (by decide +kernel) ?_
  refine zw_lload_n 13 f167_12 rfl rfl ?_
  refine zw_aload_n 14 f167_13 rfl rfl ?_
  refine zw_getfield 17 f167_14 rfl g167_48_12 (zg_eq (zg_eq (mb_52 x))) (zg_ne rfl (zg_ne rfl rfl)) ?_
  refine zw_iload 19 f167_17 rfl rfl ?_
  refine zw_baload 13 0 20 f167_19 rfl (zg_ne rfl (zg_ne rfl (mb_64 x))) (by decide +kernel) (by decide +kernel) (by decide +kernel) rfl ?_
  refine zw_if_eq_t 30 f167_20 (by decide +kernel) (by decide +kernel) ?_
  refine zw_lconst 0 31 f167_30 rfl (by decide +kernel) ?_
  refine zw_lor 0 32 f167_31 rfl (by decide +kernel) ?_
  refine zw_lstore_n [(2, .long 0), (4, .int 13), (0, .ref 52), (1, .int 0)] 33 f167_32 rfl (by decide +kernel) rfl ?_
  refine zw_iinc 14 [(4, .int 14), (2, .long 0), (0, .ref 52), (1, .int 0)] 36 f167_33 rfl rfl (by decide +kernel) (by decide +kernel) rfl ?_
  refine zw_goto 5 f167_36 (by decide +kernel) ?_
  refine zw_iload 7 f167_5 rfl rfl ?_
  refine zw_bipush 14 9 f167_7 rfl (by decide +kernel) ?_
  refine zw_ic_ge_t 39 f167_9 (by decide +kernel) (by decide +kernel) ?_
  refine zw_iconst 0 40 f167_39 rfl (by decide +kernel) ?_
  refine zw_istore [(4, .int 0), (2, .long 0), (0, .ref 52), (1, .int 0)] 42 f167_40 rfl (by decide +kernel) rfl ?_
  refine zw_iload 44 f167_42 rfl rfl ?_
  refine zw_bipush 8 46 f167_44 rfl (by decide +kernel) ?_
  refine zw_ic_ge_f 49 98 f167_46 (by decide +kernel) rfl (by decide +kernel) ?_
  refine zw_lload_n 50 f167_49 rfl rfl ?_
  refine zw_aload_n 51 f167_50 rfl rfl ?_
  refine zw_getfield 54 f167_51 rfl g167_52_12 (zg_eq (zg_eq (mb_52 x))) (zg_ne rfl (zg_ne rfl rfl)) ?_
  refine zw_iload 56 f167_54 rfl rfl ?_
  refine zw_baload 0 0 57 f167_56 rfl (zg_ne rfl (zg_ne rfl (mb_65 x))) (by decide +kernel) (by decide +kernel) (by decide +kernel) rfl ?_
  refine zw_if_eq_t 70 f167_57 (by decide +kernel) (by decide +kernel) ?_
  refine zw_lconst 0 71 f167_70 rfl (by decide +kernel) ?_
  refine zw_lor 0 72 f167_71 rfl (by decide +kernel) ?_
  refine zw_lstore_n [(2, .long 0), (4, .int 0), (0, .ref 52), (1, .int 0)] 73 f167_72 rfl (by decide +kernel) rfl ?_
  refine zw_aload_n 74 f167_73 rfl rfl ?_
  refine zw_getfield 77 f167_74 rfl g167_108_12 (zg_eq (zg_eq (mb_52 x))) (zg_ne rfl (zg_ne rfl rfl)) ?_
  refine zw_bipush 11 79 f167_77 rfl (by decide +kernel) ?_
  refine zw_iload_n 80 f167_79 rfl rfl ?_
  refine zw_imul 0 81 f167_80 rfl (by decide +kernel) ?_
  refine zw_iload 83 f167_81 rfl rfl ?_
  refine zw_iadd 0 84 f167_83 rfl (by decide +kernel) ?_
  refine zw_aload_n 85 f167_84 rfl rfl ?_
  refine zw_getfield 88 f167_85 rfl g167_44_12 (zg_eq (zg_eq (mb_52 x))) (zg_ne rfl (zg_ne rfl rfl)) ?_
  refine zw_iload 90 f167_88 rfl rfl ?_
  refine zw_laload 0 0 91 f167_90 rfl (zg_ne rfl (zg_ne rfl (mb_63 x))) (by decide +kernel) (by decide +kernel) (by decide +kernel) rfl ?_
  refine zw_lastoreS 0 92 f167_91 rfl (zg_ne rfl (zg_ne rfl (mb_81 x))) (by decide +kernel) (by decide +kernel) (by decide +kernel) rfl ?_
  refine zw_iinc 1 [(4, .int 1), (2, .long 0), (0, .ref 52), (1, .int 0)] 95 f167_92 rfl rfl (by decide +kernel) (by decide +kernel) rfl ?_
  refine zw_goto 42 f167_95 (by decide +kernel) ?_
  refine zw_iload 44 f167_42 rfl rfl ?_
  refine zw_bipush 8 46 f167_44 rfl (by decide +kernel) ?_
  refine zw_ic_ge_f 49 98 f167_46 (by decide +kernel) rfl (by decide +kernel) ?_
  refine zw_lload_n 50 f167_49 rfl rfl ?_
  refine zw_aload_n 51 f167_50 rfl rfl ?_
  refine zw_getfield 54 f167_51 rfl g167_52_12 (zg_eq (zg_eq (mb_52 x))) (zg_ne rfl (zg_ne rfl rfl)) ?_
  refine zw_iload 56 f167_54 rfl rfl ?_
  refine zw_baload 1 0 57 f167_56 rfl (zg_ne rfl (zg_ne rfl (mb_65 x))) (by decide +kernel) (by decide +kernel) (by decide +kernel) rfl ?_
  refine zw_if_eq_t 70 f167_57 (by decide +kernel) (by decide +kernel) ?_
  refine zw_lconst 0 71 f167_70 rfl (by decide +kernel) ?_
  refine zw_lor 0 72 f167_71 rfl (by decide +kernel) ?_
  refine zw_lstore_n [(2, .long 0), (4, .int 1), (0, .ref 52), (1, .int 0)] 73 f167_72 rfl (by decide +kernel) rfl ?_
  refine zw_aload_n 74 f167_73 rfl rfl ?_
  refine zw_getfield 77 f167_74 rfl g167_108_12 (zg_eq (zg_eq (mb_52 x))) (zg_ne rfl (zg_ne rfl rfl)) ?_
  refine zw_bipush 11 79 f167_77 rfl (by decide +kernel) ?_
  refine zw_iload_n 80 f167_79 rfl rfl ?_
  refine zw_imul 0 81 f167_80 rfl (by decide +kernel) ?_
  refine zw_iload 83 f167_81 rfl rfl ?_
  refine zw_iadd 1 84 f167_83 rfl (by decide +kernel) ?_
  refine zw_aload_n 85 f167_84 rfl rfl ?_
  refine zw_getfield 88 f167_85 rfl g167_44_12 (zg_eq (zg_eq (mb_52 x))) (zg_ne rfl (zg_ne rfl rfl)) ?_
  refine zw_iload 90 f167_88 rfl rfl ?_
  refine zw_laload 1 0 91 f167_90 rfl (zg_ne rfl (zg_ne rfl (mb_63 x))) (by decide +kernel) (by decide +kernel) (by decide +kernel) rfl ?_
  refine zw_lastoreS 1 92 f167_91 rfl (zg_ne rfl (zg_ne rfl (mb_81 x))) (by decide +kernel) (by decide +kernel) (by decide +kernel) rfl ?_
  refine zw_iinc 2 [(4, .int 2), (2, .long 0), (0, .ref 52), (1, .int 0)] 95 f167_92 rfl rfl (by decide +kernel) (by decide +kernel) rfl ?_
  refine zw_goto 42 f167_95 (by decide +kernel) ?_
  refine zw_iload 44 f167_42 rfl rfl ?_
  refine zw_bipush 8 46 f167_44 rfl (by decide +kernel) ?_
  refine zw_ic_ge_f 49 98 f167_46 (by decide +kernel) rfl (by decide +kernel) ?_
  refine zw_lload_n 50 f167_49 rfl rfl ?_
  refine zw_aload_n 51 f167_50 rfl rfl ?_
  refine zw_getfield 54 f167_51 rfl g167_52_12 (zg_eq (zg_eq (mb_52 x))) (zg_ne rfl (zg_ne rfl rfl)) ?_
  refine zw_iload 56 f167_54 rfl rfl ?_
  refine zw_baload 2 0 57 f167_56 rfl (zg_ne rfl (zg_ne rfl (mb_65 x))) (by decide +kernel) (by decide +kernel) (by decide +kernel) rfl ?_
  refine zw_if_eq_t 70 f167_57 (by decide +kernel) (by decide +kernel) ?_
  refine zw_lconst 0 71 f167_70 rfl (by decide +kernel) ?_
  refine zw_lor 0 72 f167_71 rfl (by decide +kernel) ?_
  refine zw_lstore_n [(2, .long 0), (4, .int 2), (0, .ref 52), (1, .int 0)] 73 f167_72 rfl (by decide +kernel) rfl ?_
  refine zw_aload_n 74 f167_73 rfl rfl ?_
  refine zw_getfield 77 f167_74 rfl g167_108_12 (zg_eq (zg_eq (mb_52 x))) (zg_ne rfl (zg_ne rfl rfl)) ?_
  refine zw_bipush 11 79 f167_77 rfl (by decide +kernel) ?_
  refine zw_iload_n 80 f167_79 rfl rfl ?_
  refine zw_imul 0 81 f167_80 rfl (by decide +kernel) ?_
  refine zw_iload 83 f167_81 rfl rfl ?_
  refine zw_iadd 2 84 f167_83 rfl (by decide +kernel) ?_
  refine zw_aload_n 85 f167_84 rfl rfl ?_
  refine zw_getfield 88 f167_85 rfl g167_44_12 (zg_eq (zg_eq (mb_52 x))) (zg_ne rfl (zg_ne rfl rfl)) ?_
  refine zw_iload 90 f167_88 rfl rfl ?_
  refine zw_laload 2 0 91 f167_90 rfl (zg_ne rfl (zg_ne rfl (mb_63 x))) (by decide +kernel) (by decide +kernel) (by decide +kernel) rfl ?_
  refine zw_lastoreS 2 92 f167_91 rfl (zg_ne rfl (zg_ne rfl (mb_81 x))) (by decide +kernel) (by decide +kernel) (by decide +kernel) rfl ?_
  refine zw_iinc 3 [(4, .int 3), (2, .long 0), (0, .ref 52), (1, .int 0)] 95 f167_92 rfl rfl (by decide +kernel) (by decide +kernel) rfl ?_
  refine zw_goto 42 f167_95 (by decide +kernel) ?_
  refine zw_iload 44 f167_42 rfl rfl ?_
  refine zw_bipush 8 46 f167_44 rfl (by decide +kernel) ?_
  refine zw_ic_ge_f 49 98 f167_46 (by decide +kernel) rfl (by decide +kernel) ?_
  refine zw_lload_n 50 f167_49 rfl rfl ?_
  refine zw_aload_n 51 f167_50 rfl rfl ?_
  refine zw_getfield 54 f167_51 rfl g167_52_12 (zg_eq (zg_eq (mb_52 x))) (zg_ne rfl (zg_ne rfl rfl)) ?_
  refine zw_iload 56 f167_54 rfl rfl ?_
  refine zw_baload 3 0 57 f167_56 rfl (zg_ne rfl (zg_ne rfl (mb_65 x))) (by decide +kernel) (by decide +kernel) (by decide +kernel) rfl ?_
  refine zw_if_eq_t 70 f167_57 (by decide +kernel) (by decide +kernel) ?_
  refine zw_lconst 0 71 f167_70 rfl (by decide +kernel) ?_
  refine zw_lor 0 72 f167_71 rfl (by decide +kernel) ?_
  refine zw_lstore_n [(2, .long 0), (4, .int 3), (0, .ref 52), (1, .int 0)] 73 f167_72 rfl (by decide +kernel) rfl ?_
  refine zw_aload_n 74 f167_73 rfl rfl ?_
  refine zw_getfield 77 f167_74 rfl g167_108_12 (zg_eq (zg_eq (mb_52 x))) (zg_ne rfl (zg_ne rfl rfl)) ?_
  refine zw_bipush 11 79 f167_77 rfl (by decide +kernel) ?_
  refine zw_iload_n 80 f167_79 rfl rfl ?_
  refine zw_imul 0 81 f167_80 rfl (by decide +kernel) ?_
  refine zw_iload 83 f167_81 rfl rfl ?_
  refine zw_iadd 3 84 f167_83 rfl (by decide +kernel) ?_
  refine zw_aload_n 85 f167_84 rfl rfl ?_
  refine zw_getfield 88 f167_85 rfl g167_44_12 (zg_eq (zg_eq (mb_52 x))) (zg_ne rfl (zg_ne rfl rfl)) ?_
  refine zw_iload 90 f167_88 rfl rfl ?_
  refine zw_laload 3 0 91 f167_90 rfl (zg_ne rfl (zg_ne rfl (mb_63 x))) (by decide +kernel) (by decide +kernel) (by decide +kernel) rfl ?_
  refine zw_lastoreS 3 92 f167_91 rfl (zg_ne rfl (zg_ne rfl (mb_81 x))) (by decide +kernel) (by decide +kernel) (by decide +kernel) rfl ?_
  refine zw_iinc 4 [(4, .int 4), (2, .long 0), (0, .ref 52), (1, .int 0)] 95 f167_92 rfl rfl (by decide +kernel) (by decide +kernel) rfl ?_
  refine zw_goto 42 f167_95 (by decide +kernel) ?_
  refine zw_iload 44 f167_42 rfl rfl ?_
  refine zw_bipush 8 46 f167_44 rfl (by decide +kernel) ?_
  refine zw_ic_ge_f 49 98 f167_46 (by decide +kernel) rfl (by decide +kernel) ?_
  refine zw_lload_n 50 f167_49 rfl rfl ?_
  refine zw_aload_n 51 f167_50 rfl rfl ?_
  refine zw_getfield 54 f167_51 rfl g167_52_12 (zg_eq (zg_eq (mb_52 x))) (zg_ne rfl (zg_ne rfl rfl)) ?_
  refine zw_iload 56 f167_54 rfl rfl ?_
  refine zw_baload 4 0 57 f167_56 rfl (zg_ne rfl (zg_ne rfl (mb_65 x))) (by decide +kernel) (by decide +kernel) (by decide +kernel) rfl ?_
  refine zw_if_eq_t 70 f167_57 (by decide +kernel) (by decide +kernel) ?_
  refine zw_lconst 0 71 f167_70 rfl (by decide +kernel) ?_
  refine zw_lor 0 72 f167_71 rfl (by decide +kernel) ?_
  refine zw_lstore_n [(2, .long 0), (4, .int 4), (0, .ref 52), (1, .int 0)] 73 f167_72 rfl (by decide +kernel) rfl ?_
  refine zw_aload_n 74 f167_73 rfl rfl ?_
  refine zw_getfield 77 f167_74 rfl g167_108_12 (zg_eq (zg_eq (mb_52 x))) (zg_ne rfl (zg_ne rfl rfl)) ?_
  refine zw_bipush 11 79 f167_77 rfl (by decide +kernel) ?_
  refine zw_iload_n 80 f167_79 rfl rfl ?_
  refine zw_imul 0 81 f167_80 rfl (by decide +kernel) ?_
  refine zw_iload 83 f167_81 rfl rfl ?_
  refine zw_iadd 4 84 f167_83 rfl (by decide +kernel) ?_
  refine zw_aload_n 85 f167_84 rfl rfl ?_
  refine zw_getfield 88 f167_85 rfl g167_44_12 (zg_eq (zg_eq (mb_52 x))) (zg_ne rfl (zg_ne rfl rfl)) ?_
  refine zw_iload 90 f167_88 rfl rfl ?_
  refine zw_laload 4 0 91 f167_90 rfl (zg_ne rfl (zg_ne rfl (mb_63 x))) (by decide +kernel) (by decide +kernel) (by decide +kernel) rfl ?_
  refine zw_lastoreS 4 92 f167_91 rfl (zg_ne rfl (zg_ne rfl (mb_81 x))) (by decide +kernel) (by decide +kernel) (by decide +kernel) rfl ?_
  refine zw_iinc 5 [(4, .int 5), (2, .long 0), (0, .ref 52), (1, .int 0)] 95 f167_92 rfl rfl (by decide +kernel) (by decide +kernel) rfl ?_
  refine zw_goto 42 f167_95 (by decide +kernel) ?_
  refine zw_iload 44 f167_42 rfl rfl ?_
  refine zw_bipush 8 46 f167_44 rfl (by decide +kernel) ?_
  refine zw_ic_ge_f 49 98 f167_46 (by decide +kernel) rfl (by decide +kernel) ?_
  refine zw_lload_n 50 f167_49 rfl rfl ?_
  refine zw_aload_n 51 f167_50 rfl rfl ?_
  refine zw_getfield 54 f167_51 rfl g167_52_12 (zg_eq (zg_eq (mb_52 x))) (zg_ne rfl (zg_ne rfl rfl)) ?_
  refine zw_iload 56 f167_54 rfl rfl ?_
  refine zw_baload 5 0 57 f167_56 rfl (zg_ne rfl (zg_ne rfl (mb_65 x))) (by decide +kernel) (by decide +kernel) (by decide +kernel) rfl ?_
  refine zw_if_eq_t 70 f167_57 (by decide +kernel) (by decide +kernel) ?_
  refine zw_lconst 0 71 f167_70 rfl (by decide +kernel) ?_
  refine zw_lor 0 72 f167_71 rfl (by decide +kernel) ?_
  refine zw_lstore_n [(2, .long 0), (4, .int 5), (0, .ref 52), (1, .int 0)] 73 f167_72 rfl (by decide +kernel) rfl ?_
  refine zw_aload_n 74 f167_73 rfl rfl ?_
  refine zw_getfield 77 f167_74 rfl g167_108_12 (zg_eq (zg_eq (mb_52 x))) (zg_ne rfl (zg_ne rfl rfl)) ?_
  refine zw_bipush 11 79 f167_77 rfl (by decide +kernel) ?_
  refine zw_iload_n 80 f167_79 rfl rfl ?_
  refine zw_imul 0 81 f167_80 rfl (by decide +kernel) ?_
  refine zw_iload 83 f167_81 rfl rfl ?_
  refine zw_iadd 5 84 f167_83 rfl (by decide +kernel) ?_
  refine zw_aload_n 85 f167_84 rfl rfl ?_
  refine zw_getfield 88 f167_85 rfl g167_44_12 (zg_eq (zg_eq (mb_52 x))) (zg_ne rfl (zg_ne rfl rfl)) ?_
  refine zw_iload 90 f167_88 rfl rfl ?_
  refine zw_laload 5 0 91 f167_90 rfl (zg_ne rfl (zg_ne rfl (mb_63 x))) (by decide +kernel) (by decide +kernel) (by decide +kernel) rfl ?_
  refine zw_lastoreS 5 92 f167_91 rfl (zg_ne rfl (zg_ne rfl (mb_81 x))) (by decide +kernel) (by decide +kernel) (by decide +kernel) rfl ?_
  refine zw_iinc 6 [(4, .int 6), (2, .long 0), (0, .ref 52), (1, .int 0)] 95 f167_92 rfl rfl (by decide +kernel) (by decide +kernel) rfl ?_
  refine zw_goto 42 f167_95 (by decide +kernel) ?_
  refine zw_iload 44 f167_42 rfl rfl ?_
  refine zw_bipush 8 46 f167_44 rfl (by decide +kernel) ?_
  refine zw_ic_ge_f 49 98 f167_46 (by decide +kernel) rfl (by decide +kernel) ?_
  refine zw_lload_n 50 f167_49 rfl rfl ?_
  refine zw_aload_n 51 f167_50 rfl rfl ?_
  refine zw_getfield 54 f167_51 rfl g167_52_12 (zg_eq (zg_eq (mb_52 x))) (zg_ne rfl (zg_ne rfl rfl)) ?_
  refine zw_iload 56 f167_54 rfl rfl ?_
  refine zw_baload 6 0 57 f167_56 rfl (zg_ne rfl (zg_ne rfl (mb_65 x))) (by decide +kernel) (by decide +kernel) (by decide +kernel) rfl ?_
  refine zw_if_eq_t 70 f167_57 (by decide +kernel) (by decide +kernel) ?_
  refine zw_lconst 0 71 f167_70 rfl (by decide +kernel) ?_
  refine zw_lor 0 72 f167_71 rfl (by decide +kernel) ?_
  refine zw_lstore_n [(2, .long 0), (4, .int 6), (0, .ref 52), (1, .int 0)] 73 f167_72 rfl (by decide +kernel) rfl ?_
  refine zw_aload_n 74 f167_73 rfl rfl ?_
  refine zw_getfield 77 f167_74 rfl g167_108_12 (zg_eq (zg_eq (mb_52 x))) (zg_ne rfl (zg_ne rfl rfl)) ?_
  refine zw_bipush 11 79 f167_77 rfl (by decide +kernel) ?_
  refine zw_iload_n 80 f167_79 rfl rfl ?_
  refine zw_imul 0 81 f167_80 rfl (by decide +kernel) ?_
  refine zw_iload 83 f167_81 rfl rfl ?_
  refine zw_iadd 6 84 f167_83 rfl (by decide +kernel) ?_
  refine zw_aload_n 85 f167_84 rfl rfl ?_
  refine zw_getfield 88 f167_85 rfl g167_44_12 (zg_eq (zg_eq (mb_52 x))) (zg_ne rfl (zg_ne rfl rfl)) ?_
  refine zw_iload 90 f167_88 rfl rfl ?_
  refine zw_laload 6 0 91 f167_90 rfl (zg_ne rfl (zg_ne rfl (mb_63 x))) (by decide +kernel) (by decide +kernel) (by decide +kernel) rfl ?_
  refine zw_lastoreS 6 92 f167_91 rfl (zg_ne rfl (zg_ne rfl (mb_81 x))) (by decide +kernel) (by decide +kernel) (by decide +kernel) rfl ?_
  refine zw_iinc 7 [(4, .int 7), (2, .long 0), (0, .ref 52), (1, .int 0)] 95 f167_92 rfl rfl (by decide +kernel) (by decide +kernel) rfl ?_
  refine zw_goto 42 f167_95 (by decide +kernel) ?_
  refine zw_iload 44 f167_42 rfl rfl ?_
  refine zw_bipush 8 46 f167_44 rfl (by decide +kernel) ?_
  refine zw_ic_ge_f 49 98 f167_46 (by decide +kernel) rfl (by decide +kernel) ?_
  refine zw_lload_n 50 f167_49 rfl rfl ?_
  refine zw_aload_n 51 f167_50 rfl rfl ?_
  refine zw_getfield 54 f167_51 rfl g167_52_12 (zg_eq (zg_eq (mb_52 x))) (zg_ne rfl (zg_ne rfl rfl)) ?_
  refine zw_iload 56 f167_54 rfl rfl ?_
  refine zw_baload 7 0 57 f167_56 rfl (zg_ne rfl (zg_ne rfl (mb_65 x))) (by decide +kernel) (by decide +kernel) (by decide +kernel) rfl ?_
  refine zw_if_eq_t 70 f167_57 (by decide +kernel) (by decide +kernel) ?_
  refine zw_lconst 0 71 f167_70 rfl (by decide +kernel) ?_
  refine zw_lor 0 72 f167_71 rfl (by decide +kernel) ?_
  refine zw_lstore_n [(2, .long 0), (4, .int 7), (0, .ref 52), (1, .int 0)] 73 f167_72 rfl (by decide +kernel) rfl ?_
  refine zw_aload_n 74 f167_73 rfl rfl ?_
  refine zw_getfield 77 f167_74 rfl g167_108_12 (zg_eq (zg_eq (mb_52 x))) (zg_ne rfl (zg_ne rfl rfl)) ?_
  refine zw_bipush 11 79 f167_77 rfl (by decide +kernel) ?_
  refine zw_iload_n 80 f167_79 rfl rfl ?_
  refine zw_imul 0 81 f167_80 rfl (by decide +kernel) ?_
  refine zw_iload 83 f167_81 rfl rfl ?_
  refine zw_iadd 7 84 f167_83 rfl (by decide +kernel) ?_
  refine zw_aload_n 85 f167_84 rfl rfl ?_
  refine zw_getfield 88 f167_85 rfl g167_44_12 (zg_eq (zg_eq (mb_52 x))) (zg_ne rfl (zg_ne rfl rfl)) ?_
  refine zw_iload 90 f167_88 rfl rfl ?_
  refine zw_laload 7 0 91 f167_90 rfl (zg_ne rfl (zg_ne rfl (mb_63 x))) (by decide +kernel) (by decide +kernel) (by decide +kernel) rfl ?_
  refine zw_lastoreS 7 92 f167_91 rfl (zg_ne rfl (zg_ne rfl (mb_81 x))) (by decide +kernel) (by decide +kernel) (by decide +kernel) rfl ?_
  refine zw_iinc 8 [(4, .int 8), (2, .long 0), (0, .ref 52), (1, .int 0)] 95 f167_92 rfl rfl (by decide +kernel) (by decide +kernel) rfl ?_
  refine zw_goto 42 f167_95 (by decide +kernel) ?_
  refine zw_iload 44 f167_42 rfl rfl ?_
  refine zw_bipush 8 46 f167_44 rfl (by decide +kernel) ?_
  refine zw_ic_ge_t 98 f167_46 (by decide +kernel) (by decide +kernel) ?_
  refine zw_aload_n 99 f167_98 rfl rfl ?_
  refine zw_getfield 102 f167_99 rfl g167_108_12 (zg_eq (zg_eq (mb_52 x))) (zg_ne rfl (zg_ne rfl rfl)) ?_
  refine zw_bipush 11 104 f167_102 rfl (by decide +kernel) ?_
  refine zw_iload_n 105 f167_104 rfl rfl ?_
  refine zw_imul 0 106 f167_105 rfl (by decide +kernel) ?_
  refine zw_bipush 8 108 f167_106 rfl (by decide +kernel) ?_
  refine zw_iadd 8 109 f167_108 rfl (by decide +kernel) ?_
  refine zw_aload_n 110 f167_109 rfl rfl ?_
  refine zw_getfield 113 f167_110 rfl g167_40_12 (zg_eq (zg_eq (mb_52 x))) (zg_ne rfl (zg_ne rfl rfl)) ?_
  refine zw_lastore 8 114 f167_113 rfl (zg_ne rfl (zg_ne rfl (mb_81 x))) (by decide +kernel) (by decide +kernel) (by decide +kernel) ?_
  refine zw_aload_n 115 f167_114 rfl rfl ?_
  refine zw_getfield 118 f167_115 rfl g167_108_12 (zg_ne rfl (zg_eq (zg_eq (mb_52 x)))) (zg_ne rfl (zg_ne rfl rfl)) ?_
  refine zw_bipush 11 120 f167_118 rfl (by decide +kernel) ?_
  refine zw_iload_n 121 f167_120 rfl rfl ?_
  refine zw_imul 0 122 f167_121 rfl (by decide +kernel) ?_
  refine zw_bipush 9 124 f167_122 rfl (by decide +kernel) ?_
  refine zw_iadd 9 125 f167_124 rfl (by decide +kernel) ?_
  refine zw_aload_n 126 f167_125 rfl rfl ?_
  refine zw_getfield 129 f167_126 rfl g167_172_12 (zg_ne rfl (zg_eq (zg_eq (mb_52 x)))) (zg_ne rfl (zg_ne rfl rfl)) ?_
  refine zw_lastoreS 9 130 f167_129 rfl (zg_eq (zg_ne rfl (zg_ne rfl (mb_81 x)))) (by decide +kernel) (by decide +kernel) (by decide +kernel) rfl ?_
  refine zw_aload_n 131 f167_130 rfl rfl ?_
  refine zw_getfield 134 f167_131 rfl g167_108_12 (zg_ne rfl (zg_eq (zg_eq (mb_52 x)))) (zg_ne rfl (zg_ne rfl rfl)) ?_
  refine zw_bipush 11 136 f167_134 rfl (by decide +kernel) ?_
  refine zw_iload_n 137 f167_136 rfl rfl ?_
  refine zw_imul 0 138 f167_137 rfl (by decide +kernel) ?_
  refine zw_bipush 10 140 f167_138 rfl (by decide +kernel) ?_
  refine zw_iadd 10 141 f167_140 rfl (by decide +kernel) ?_
  refine zw_lload_n 142 f167_141 rfl rfl ?_
  refine zw_lastoreS 10 143 f167_142 rfl (zg_eq (zg_ne rfl (zg_ne rfl (mb_81 x)))) (by decide +kernel) (by decide +kernel) (by decide +kernel) rfl ?_
  refine zw_vreturn f167_143 r167 u167 ⟨rfl, ?_⟩
  refine zw_iconst 1 6 f169_5 rfl (by decide +kernel) ?_
  refine zw_istore_n [(1, .int 1), (0, .ref 52)] 7 f169_6 rfl (by decide +kernel) rfl ?_
  refine zw_iload_n 8 f169_7 rfl rfl ?_
  refine zw_sipush 150 11 f169_8 rfl (by decide +kernel) ?_
  refine zw_ic_gt_f 14 83 f169_11 (by decide +kernel) rfl (by decide +kernel) ?_
  refine zw_aload_n 15 f169_14 rfl rfl ?_
  refine zw_ldc2_w 100000000 18 f169_15 rfl (by decide +kernel) ?_
  refine zw_virtual_i 21 0 0 [.ref 52, .long 100000000] [(0, .ref 52), (1, .long 100000000)] f169_18 rfl n169_235 k169_235_12 rfl (zg_ne rfl (zg_eq (zg_eq (mb_52 x)))) (by decide +kernel) (Nat.le_of_ble_eq_true rfl) rfl rfl (by decide +kernel) (by decide +kernel) rfl (Nat.le_of_ble_eq_true rfl) rfl ?_
  refine zw_aload_n 1 f151_0 rfl rfl ?_
  refine zw_virtual_v 4 0 0 [.ref 52] [(0, .ref 52)] f151_1 rfl n151_228 k151_228_12 rfl (zg_ne rfl (zg_eq (zg_eq (mb_52 x)))) (by decide +kernel) (Nat.le_of_ble_eq_true rfl) rfl rfl (by decide +kernel) (by decide +kernel) rfl (Nat.le_of_ble_eq_true rfl) rfl ?_
  refine zw_aload_n 1 f132_0 rfl rfl ?_
  refine zw_virtual_v 4 0 0 [.ref 52] [(0, .ref 52)] f132_1 rfl n132_151 k132_151_12 rfl (zg_ne rfl (zg_eq (zg_eq (mb_52 x)))) (by decide +kernel) (Nat.le_of_ble_eq_true rfl) rfl rfl (by decide +kernel) (by decide +kernel) rfl (Nat.le_of_ble_eq_true rfl) rfl ?_
  refine zw_aload_n 1 f129_0 rfl rfl ?_
  refine zw_iconst 0 2 f129_1 rfl (by decide +kernel) ?_
  refine zw_putfieldS 5 f129_2 rfl g129_127_12 (zg_ne rfl (zg_eq (zg_eq (mb_52 x)))) rfl (zg_ne rfl (zg_ne rfl rfl)) (by decide +kernel) ?_
  refine zw_aload_n 6 f129_5 rfl rfl ?_
  refine zw_iconst 0 7 f129_6 rfl (by decide +kernel) ?_
  refine zw_putfieldS 10 f129_7 rfl g129_124_12 (zg_ne rfl (zg_eq (zg_eq (mb_52 x)))) rfl (zg_ne rfl (zg_ne rfl rfl)) (by decide +kernel) ?_
  refine zw_iconst 0 11 f129_10 rfl (by decide +kernel) ?_
  refine zw_istore_n [(1, .int 0), (0, .ref 52)] 12 f129_11 rfl (by decide +kernel) rfl ?_
  refine zw_iload_n 13 f129_12 rfl rfl ?_
  refine zw_bipush 8 15 f129_13 rfl (by decide +kernel) ?_
  refine zw_ic_ge_f 18 45 f129_15 (by decide +kernel) rfl (by decide +kernel) ?_
  refine zw_aload_n 19 f129_18 rfl rfl ?_
  refine zw_getfield 22 f129_19 rfl g129_77_12 (zg_ne rfl (zg_eq (zg_eq (mb_52 x)))) (zg_ne rfl (zg_ne rfl rfl)) ?_
  refine zw_iload_n 23 f129_22 rfl rfl ?_
  refine zw_iconst 0 24 f129_23 rfl (by decide +kernel) ?_
  refine zw_iastoreS 0 25 f129_24 rfl (zg_ne rfl (zg_ne rfl (zg_ne rfl (mb_72 x)))) (by decide +kernel) (by decide +kernel) (by decide +kernel) rfl ?_
  refine zw_aload_n 26 f129_25 rfl rfl ?_
  refine zw_getfield 29 f129_26 rfl g129_80_12 (zg_ne rfl (zg_eq (zg_eq (mb_52 x)))) (zg_ne rfl (zg_ne rfl rfl)) ?_
  refine zw_iload_n 30 f129_29 rfl rfl ?_
  refine zw_iconst 0 31 f129_30 rfl (by decide +kernel) ?_
  refine zw_iastoreS 0 32 f129_31 rfl (zg_ne rfl (zg_ne rfl (zg_ne rfl (mb_73 x)))) (by decide +kernel) (by decide +kernel) (by decide +kernel) rfl ?_
  refine zw_aload_n 33 f129_32 rfl rfl ?_
  refine zw_getfield 36 f129_33 rfl g129_83_12 (zg_ne rfl (zg_eq (zg_eq (mb_52 x)))) (zg_ne rfl (zg_ne rfl rfl)) ?_
  refine zw_iload_n 37 f129_36 rfl rfl ?_
  refine zw_iconst 0 38 f129_37 rfl (by decide +kernel) ?_
  refine zw_iastoreS 0 39 f129_38 rfl (zg_ne rfl (zg_ne rfl (zg_ne rfl (mb_74 x)))) (by decide +kernel) (by decide +kernel) (by decide +kernel) rfl ?_
  refine zw_iinc 1 [(1, .int 1), (0, .ref 52)] 42 f129_39 rfl rfl (by decide +kernel) (by decide +kernel) rfl ?_
  refine zw_goto 12 f129_42 (by decide +kernel) ?_
  refine zw_iload_n 13 f129_12 rfl rfl ?_
  refine zw_bipush 8 15 f129_13 rfl (by decide +kernel) ?_
  refine zw_ic_ge_f 18 45 f129_15 (by decide +kernel) rfl (by decide +kernel) ?_
  refine zw_aload_n 19 f129_18 rfl rfl ?_
  refine zw_getfield 22 f129_19 rfl g129_77_12 (zg_ne rfl (zg_eq (zg_eq (mb_52 x)))) (zg_ne rfl (zg_ne rfl rfl)) ?_
  refine zw_iload_n 23 f129_22 rfl rfl ?_
  refine zw_iconst 0 24 f129_23 rfl (by decide +kernel) ?_
  refine zw_iastoreS 1 25 f129_24 rfl (zg_ne rfl (zg_ne rfl (zg_ne rfl (mb_72 x)))) (by decide +kernel) (by decide +kernel) (by decide +kernel) rfl ?_
  refine zw_aload_n 26 f129_25 rfl rfl ?_
  refine zw_getfield 29 f129_26 rfl g129_80_12 (zg_ne rfl (zg_eq (zg_eq (mb_52 x)))) (zg_ne rfl (zg_ne rfl rfl)) ?_
  refine zw_iload_n 30 f129_29 rfl rfl ?_
  refine zw_iconst 0 31 f129_30 rfl (by decide +kernel) ?_
  refine zw_iastoreS 1 32 f129_31 rfl (zg_ne rfl (zg_ne rfl (zg_ne rfl (mb_73 x)))) (by decide +kernel) (by decide +kernel) (by decide +kernel) rfl ?_
  refine zw_aload_n 33 f129_32 rfl rfl ?_
  refine zw_getfield 36 f129_33 rfl g129_83_12 (zg_ne rfl (zg_eq (zg_eq (mb_52 x)))) (zg_ne rfl (zg_ne rfl rfl)) ?_
  refine zw_iload_n 37 f129_36 rfl rfl ?_
  refine zw_iconst 0 38 f129_37 rfl (by decide +kernel) ?_
  refine zw_iastoreS 1 39 f129_38 rfl (zg_ne rfl (zg_ne rfl (zg_ne rfl (mb_74 x)))) (by decide +kernel) (by decide +kernel) (by decide +kernel) rfl ?_
  refine zw_iinc 2 [(1, .int 2), (0, .ref 52)] 42 f129_39 rfl rfl (by decide +kernel) (by decide +kernel) rfl ?_
  refine zw_goto 12 f129_42 (by decide +kernel) ?_
  refine zw_iload_n 13 f129_12 rfl rfl ?_
  refine zw_bipush 8 15 f129_13 rfl (by decide +kernel) ?_
  refine zw_ic_ge_f 18 45 f129_15 (by decide +kernel) rfl (by decide +kernel) ?_
  refine zw_aload_n 19 f129_18 rfl rfl ?_
  refine zw_getfield 22 f129_19 rfl g129_77_12 (zg_ne rfl (zg_eq (zg_eq (mb_52 x)))) (zg_ne rfl (zg_ne rfl rfl)) ?_
  refine zw_iload_n 23 f129_22 rfl rfl ?_
  refine zw_iconst 0 24 f129_23 rfl (by decide +kernel) ?_
  refine zw_iastoreS 2 25 f129_24 rfl (zg_ne rfl (zg_ne rfl (zg_ne rfl (mb_72 x)))) (by decide +kernel) (by decide +kernel) (by decide +kernel) rfl ?_
  refine zw_aload_n 26 f129_25 rfl rfl ?_
  refine zw_getfield 29 f129_26 rfl g129_80_12 (zg_ne rfl (zg_eq (zg_eq (mb_52 x)))) (zg_ne rfl (zg_ne rfl rfl)) ?_
  refine zw_iload_n 30 f129_29 rfl rfl ?_
  refine zw_iconst 0 31 f129_30 rfl (by decide +kernel) ?_
  refine zw_iastoreS 2 32 f129_31 rfl (zg_ne rfl (zg_ne rfl (zg_ne rfl (mb_73 x)))) (by decide +kernel) (by decide +kernel) (by decide +kernel) rfl ?_
  refine zw_aload_n 33 f129_32 rfl rfl ?_
  refine zw_getfield 36 f129_33 rfl g129_83_12 (zg_ne rfl (zg_eq (zg_eq (mb_52 x)))) (zg_ne rfl (zg_ne rfl rfl)) ?_
  refine zw_iload_n 37 f129_36 rfl rfl ?_
  refine zw_iconst 0 38 f129_37 rfl (by decide +kernel) ?_
  refine zw_iastoreS 2 39 f129_38 rfl (zg_ne rfl (zg_ne rfl (zg_ne rfl (mb_74 x)))) (by decide +kernel) (by decide +kernel) (by decide +kernel) rfl ?_
  refine zw_iinc 3 [(1, .int 3), (0, .ref 52)] 42 f129_39 rfl rfl (by decide +kernel) (by decide +kernel) rfl ?_
  refine zw_goto 12 f129_42 (by decide +kernel) ?_
  refine zw_iload_n 13 f129_12 rfl rfl ?_
  refine zw_bipush 8 15 f129_13 rfl (by decide +kernel) ?_
  refine zw_ic_ge_f 18 45 f129_15 (by decide +kernel) rfl (by decide +kernel) ?_
  refine zw_aload_n 19 f129_18 rfl rfl ?_
  refine zw_getfield 22 f129_19 rfl g129_77_12 (zg_ne rfl (zg_eq (zg_eq (mb_52 x)))) (zg_ne rfl (zg_ne rfl rfl)) ?_
  refine zw_iload_n 23 f129_22 rfl rfl ?_
  refine zw_iconst 0 24 f129_23 rfl (by decide +kernel) ?_
  refine zw_iastoreS 3 25 f129_24 rfl (zg_ne rfl (zg_ne rfl (zg_ne rfl (mb_72 x)))) (by decide +kernel) (by decide +kernel) (by decide +kernel) rfl ?_
  refine zw_aload_n 26 f129_25 rfl rfl ?_
  refine zw_getfield 29 f129_26 rfl g129_80_12 (zg_ne rfl (zg_eq (zg_eq (mb_52 x)))) (zg_ne rfl (zg_ne rfl rfl)) ?_
  refine zw_iload_n 30 f129_29 rfl rfl ?_
  refine zw_iconst 0 31 f129_30 rfl (by decide +kernel) ?_
  refine zw_iastoreS 3 32 f129_31 rfl (zg_ne rfl (zg_ne rfl (zg_ne rfl (mb_73 x)))) (by decide +kernel) (by decide +kernel) (by decide +kernel) rfl ?_
  refine zw_aload_n 33 f129_32 rfl rfl ?_
  refine zw_getfield 36 f129_33 rfl g129_83_12 (zg_ne rfl (zg_eq (zg_eq (mb_52 x)))) (zg_ne rfl (zg_ne rfl rfl)) ?_
  refine zw_iload_n 37 f129_36 rfl rfl ?_
  refine zw_iconst 0 38 f129_37 rfl (by decide +kernel) ?_
  refine zw_iastoreS 3 39 f129_38 rfl (zg_ne rfl (zg_ne rfl (zg_ne rfl (mb_74 x)))) (by decide +kernel) (by decide +kernel) (by decide +kernel) rfl ?_
  refine zw_iinc 4 [(1, .int 4), (0, .ref 52)] 42 f129_39 rfl rfl (by decide +kernel) (by decide +kernel) rfl ?_
  refine zw_goto 12 f129_42 (by decide +kernel) ?_
  refine zw_iload_n 13 f129_12 rfl rfl ?_
  refine zw_bipush 8 15 f129_13 rfl (by decide +kernel) ?_
  refine zw_ic_ge_f 18 45 f129_15 (by decide +kernel) rfl (by decide +kernel) ?_
  refine zw_aload_n 19 f129_18 rfl rfl ?_
  refine zw_getfield 22 f129_19 rfl g129_77_12 (zg_ne rfl (zg_eq (zg_eq (mb_52 x)))) (zg_ne rfl (zg_ne rfl rfl)) ?_
  refine zw_iload_n 23 f129_22 rfl rfl ?_
  refine zw_iconst 0 24 f129_23 rfl (by decide +kernel) ?_
  refine zw_iastoreS 4 25 f129_24 rfl (zg_ne rfl (zg_ne rfl (zg_ne rfl (mb_72 x)))) (by decide +kernel) (by decide +kernel) (by decide +kernel) rfl ?_
  refine zw_aload_n 26 f129_25 rfl rfl ?_
  refine zw_getfield 29 f129_26 rfl g129_80_12 (zg_ne rfl (zg_eq (zg_eq (mb_52 x)))) (zg_ne rfl (zg_ne rfl rfl)) ?_
  refine zw_iload_n 30 f129_29 rfl rfl ?_
  refine zw_iconst 0 31 f129_30 rfl (by decide +kernel) ?_
  refine zw_iastoreS 4 32 f129_31 rfl (zg_ne rfl (zg_ne rfl (zg_ne rfl (mb_73 x)))) (by decide +kernel) (by decide +kernel) (by decide +kernel) rfl ?_
  refine zw_aload_n 33 f129_32 rfl rfl ?_
  refine zw_getfield 36 f129_33 rfl g129_83_12 (zg_ne rfl (zg_eq (zg_eq (mb_52 x)))) (zg_ne rfl (zg_ne rfl rfl)) ?_
  refine zw_iload_n 37 f129_36 rfl rfl ?_
  refine zw_iconst 0 38 f129_37 rfl (by decide +kernel) ?_
  refine zw_iastoreS 4 39 f129_38 rfl (zg_ne rfl (zg_ne rfl (zg_ne rfl (mb_74 x)))) (by decide +kernel) (by decide +kernel) (by decide +kernel) rfl ?_
  refine zw_iinc 5 [(1, .int 5), (0, .ref 52)] 42 f129_39 rfl rfl (by decide +kernel) (by decide +kernel) rfl ?_
  refine zw_goto 12 f129_42 (by decide +kernel) ?_
  refine zw_iload_n 13 f129_12 rfl rfl ?_
  refine zw_bipush 8 15 f129_13 rfl (by decide +kernel) ?_
  refine zw_ic_ge_f 18 45 f129_15 (by decide +kernel) rfl (by decide +kernel) ?_
  refine zw_aload_n 19 f129_18 rfl rfl ?_
  refine zw_getfield 22 f129_19 rfl g129_77_12 (zg_ne rfl (zg_eq (zg_eq (mb_52 x)))) (zg_ne rfl (zg_ne rfl rfl)) ?_
  refine zw_iload_n 23 f129_22 rfl rfl ?_
  refine zw_iconst 0 24 f129_23 rfl (by decide +kernel) ?_
  refine zw_iastoreS 5 25 f129_24 rfl (zg_ne rfl (zg_ne rfl (zg_ne rfl (mb_72 x)))) (by decide +kernel) (by decide +kernel) (by decide +kernel) rfl ?_
  refine zw_aload_n 26 f129_25 rfl rfl ?_
  refine zw_getfield 29 f129_26 rfl g129_80_12 (zg_ne rfl (zg_eq (zg_eq (mb_52 x)))) (zg_ne rfl (zg_ne rfl rfl)) ?_
  refine zw_iload_n 30 f129_29 rfl rfl ?_
  refine zw_iconst 0 31 f129_30 rfl (by decide +kernel) ?_
  refine zw_iastoreS 5 32 f129_31 rfl (zg_ne rfl (zg_ne rfl (zg_ne rfl (mb_73 x)))) (by decide +kernel) (by decide +kernel) (by decide +kernel) rfl ?_
  refine zw_aload_n 33 f129_32 rfl rfl ?_
  refine zw_getfield 36 f129_33 rfl g129_83_12 (zg_ne rfl (zg_eq (zg_eq (mb_52 x)))) (zg_ne rfl (zg_ne rfl rfl)) ?_
  refine zw_iload_n 37 f129_36 rfl rfl ?_
  refine zw_iconst 0 38 f129_37 rfl (by decide +kernel) ?_
  refine zw_iastoreS 5 39 f129_38 rfl (zg_ne rfl (zg_ne rfl (zg_ne rfl (mb_74 x)))) (by decide +kernel) (by decide +kernel) (by decide +kernel) rfl ?_
  refine zw_iinc 6 [(1, .int 6), (0, .ref 52)] 42 f129_39 rfl rfl (by decide +kernel) (by decide +kernel) rfl ?_
  refine zw_goto 12 f129_42 (by decide +kernel) ?_
  refine zw_iload_n 13 f129_12 rfl rfl ?_
  refine zw_bipush 8 15 f129_13 rfl (by decide +kernel) ?_
  refine zw_ic_ge_f 18 45 f129_15 (by decide +kernel) rfl (by decide +kernel) ?_
  refine zw_aload_n 19 f129_18 rfl rfl ?_
  refine zw_getfield 22 f129_19 rfl g129_77_12 (zg_ne rfl (zg_eq (zg_eq (mb_52 x)))) (zg_ne rfl (zg_ne rfl rfl)) ?_
  refine zw_iload_n 23 f129_22 rfl rfl ?_
  refine zw_iconst 0 24 f129_23 rfl (by decide +kernel) ?_
  refine zw_iastoreS 6 25 f129_24 rfl (zg_ne rfl (zg_ne rfl (zg_ne rfl (mb_72 x)))) (by decide +kernel) (by decide +kernel) (by decide +kernel) rfl ?_
  refine zw_aload_n 26 f129_25 rfl rfl ?_
  refine zw_getfield 29 f129_26 rfl g129_80_12 (zg_ne rfl (zg_eq (zg_eq (mb_52 x)))) (zg_ne rfl (zg_ne rfl rfl)) ?_
  refine zw_iload_n 30 f129_29 rfl rfl ?_
  refine zw_iconst 0 31 f129_30 rfl (by decide +kernel) ?_
  refine zw_iastoreS 6 32 f129_31 rfl (zg_ne rfl (zg_ne rfl (zg_ne rfl (mb_73 x)))) (by decide +kernel) (by decide +kernel) (by decide +kernel) rfl ?_
  refine zw_aload_n 33 f129_32 rfl rfl ?_
  refine zw_getfield 36 f129_33 rfl g129_83_12 (zg_ne rfl (zg_eq (zg_eq (mb_52 x)))) (zg_ne rfl (zg_ne rfl rfl)) ?_
  refine zw_iload_n 37 f129_36 rfl rfl ?_
  refine zw_iconst 0 38 f129_37 rfl (by decide +kernel) ?_
  refine zw_iastoreS 6 39 f129_38 rfl (zg_ne rfl (zg_ne rfl (zg_ne rfl (mb_74 x)))) (by decide +kernel) (by decide +kernel) (by decide +kernel) rfl ?_
  refine zw_iinc 7 [(1, .int 7), (0, .ref 52)] 42 f129_39 rfl rfl (by decide +kernel) (by decide +kernel) rfl ?_
  refine zw_goto 12 f129_42 (by decide +kernel) ?_
  refine zw_iload_n 13 f129_12 rfl rfl ?_
  refine zw_bipush 8 15 f129_13 rfl (by decide +kernel) ?_
  refine zw_ic_ge_f 18 45 f129_15 (by decide +kernel) rfl (by decide +kernel) ?_
  refine zw_aload_n 19 f129_18 rfl rfl ?_
  refine zw_getfield 22 f129_19 rfl g129_77_12 (zg_ne rfl (zg_eq (zg_eq (mb_52 x)))) (zg_ne rfl (zg_ne rfl rfl)) ?_
  refine zw_iload_n 23 f129_22 rfl rfl ?_
  refine zw_iconst 0 24 f129_23 rfl (by decide +kernel) ?_
  refine zw_iastoreS 7 25 f129_24 rfl (zg_ne rfl (zg_ne rfl (zg_ne rfl (mb_72 x)))) (by decide +kernel) (by decide +kernel) (by decide +kernel) rfl ?_
  refine zw_aload_n 26 f129_25 rfl rfl ?_
  refine zw_getfield 29 f129_26 rfl g129_80_12 (zg_ne rfl (zg_eq (zg_eq (mb_52 x)))) (zg_ne rfl (zg_ne rfl rfl)) ?_
  refine zw_iload_n 30 f129_29 rfl rfl ?_
  refine zw_iconst 0 31 f129_30 rfl (by decide +kernel) ?_
  refine zw_iastoreS 7 32 f129_31 rfl (zg_ne rfl (zg_ne rfl (zg_ne rfl (mb_73 x)))) (by decide +kernel) (by decide +kernel) (by decide +kernel) rfl ?_
  refine zw_aload_n 33 f129_32 rfl rfl ?_
  refine zw_getfield 36 f129_33 rfl g129_83_12 (zg_ne rfl (zg_eq (zg_eq (mb_52 x)))) (zg_ne rfl (zg_ne rfl rfl)) ?_
  refine zw_iload_n 37 f129_36 rfl rfl ?_
  refine zw_iconst 0 38 f129_37 rfl (by decide +kernel) ?_
  refine zw_iastoreS 7 39 f129_38 rfl (zg_ne rfl (zg_ne rfl (zg_ne rfl (mb_74 x)))) (by decide +kernel) (by decide +kernel) (by decide +kernel) rfl ?_
  refine zw_iinc 8 [(1, .int 8), (0, .ref 52)] 42 f129_39 rfl rfl (by decide +kernel) (by decide +kernel) rfl ?_
  refine zw_goto 12 f129_42 (by decide +kernel) ?_
  refine zw_iload_n 13 f129_12 rfl rfl ?_
  refine zw_bipush 8 15 f129_13 rfl (by decide +kernel) ?_
  refine zw_ic_ge_t 45 f129_15 (by decide +kernel) (by decide +kernel) ?_
  refine zw_iconst 0 46 f129_45 rfl (by decide +kernel) ?_
  refine zw_istore_n [(1, .int 0), (0, .ref 52)] 47 f129_46 rfl (by decide +kernel) rfl ?_
  refine zw_iload_n 48 f129_47 rfl rfl ?_
  refine zw_aload_n 49 f129_48 rfl rfl ?_
  refine zw_getfield 52 f129_49 rfl g129_121_12 (zg_ne rfl (zg_eq (zg_eq (mb_52 x)))) (zg_ne rfl (zg_ne rfl rfl)) ?_
  refine zw_ic_ge_t 135 f129_52 (by decide +kernel) (by decide +kernel) ?_
  refine zw_iconst 0 136 f129_135 rfl (by decide +kernel) ?_
  refine zw_istore_n [(1, .int 0), (0, .ref 52)] 137 f129_136 rfl (by decide +kernel) rfl ?_
  refine zw_iload_n 138 f129_137 rfl rfl ?_
  refine zw_aload_n 139 f129_138 rfl rfl ?_
  refine zw_getfield 142 f129_139 rfl g129_114_12 (zg_ne rfl (zg_eq (zg_eq (mb_52 x)))) (zg_ne rfl (zg_ne rfl rfl)) ?_
  refine zw_ic_ge_t 156 f129_142 (by decide +kernel) (by decide +kernel) ?_
  refine zw_vreturn f129_156 r129 u129 ⟨rfl, ?_⟩
  refine zw_aload_n 5 f132_4 rfl rfl ?_
  refine zw_iconst 1 6 f132_5 rfl (by decide +kernel) ?_
  refine zw_putfield 9 f132_6 rfl g132_142_12 (zg_ne rfl (zg_eq (zg_eq (mb_52 x)))) rfl (zg_lt (zg_ne rfl (zg_ne rfl rfl))) (by decide +kernel) ?_
  refine zw_iconst 0 10 f132_9 rfl (by decide +kernel) ?_
  refine zw_istore_n [(1, .int 0), (0, .ref 52)] 11 f132_10 rfl (by decide +kernel) rfl ?_
  refine zw_iload_n 12 f132_11 rfl rfl ?_
  refine zw_aload_n 13 f132_12 rfl rfl ?_
  refine zw_getfield 16 f132_13 rfl g132_114_12 (zg_eq (zg_ne rfl (zg_eq (zg_eq (mb_52 x))))) (zg_ne rfl (zg_ne rfl (zg_ne rfl rfl))) ?_
  refine zw_ic_ge_t 179 f132_16 (by decide +kernel) (by decide +kernel) ?_
  refine zw_vreturn f132_179 r132 u132 ⟨rfl, ?_⟩
  refine zw_aload_n 5 f151_4 rfl rfl ?_
  refine zw_getfield 8 f151_5 rfl g151_142_12 (zg_eq (zg_ne rfl (zg_eq (zg_eq (mb_52 x))))) (zg_eq (zg_ne rfl (zg_ne rfl rfl))) ?_
  refine zw_if_ne_t 40 f151_8 (by decide +kernel) (by decide +kernel) ?_
  refine zw_iconst 0 41 f151_40 rfl (by decide +kernel) ?_
  refine zw_ireturn f151_41 r151 u151 ⟨_, rfl, ?_⟩
  refine zw_istore_n [(2, .int 0), (1, .int 1), (0, .ref 52)] 22 f169_21 rfl (by decide +kernel) rfl ?_
  refine zw_iload_n 23 f169_22 rfl rfl ?_
  refine zw_iconst 1 24 f169_23 rfl (by decide +kernel) ?_
  refine zw_ic_eq_f 27 38 f169_24 (by decide +kernel) rfl (by decide +kernel) ?_
  refine zw_iload_n 28 f169_27 rfl rfl ?_
  refine zw_if_ne_f 31 35 f169_28 (by decide +kernel) rfl (by decide +kernel) ?_
  refine zw_iconst 0 32 f169_31 rfl (by decide +kernel) ?_
  refine zw_goto 37 f169_32 (by decide +kernel) ?_
  refine zw_ireturn f169_37 r169 u169 ⟨_, rfl, ?_⟩
  refine zw_istore_n [(2, .int 0), (0, .ref 52), (1, .int 0)] 20 f170_19 rfl (by decide +kernel) rfl ?_
  refine zw_aload_n 21 f170_20 rfl rfl ?_
  refine zw_virtual_v 24 0 0 [.ref 52] [(0, .ref 52)] f170_21 rfl n170_285 k170_285_12 rfl (zg_eq (zg_ne rfl (zg_eq (zg_eq (mb_52 x))))) (by decide +kernel) (Nat.le_of_ble_eq_true rfl) rfl rfl (by decide +kernel) (by decide +kernel) rfl (Nat.le_of_ble_eq_true rfl) rfl ?_
  refine zw_aload_n 1 f166_0 rfl rfl ?_
  refine zw_iconst 1 2 f166_1 rfl (by decide +kernel) ?_
  refine zw_putfield 5 f166_2 rfl g166_58_12 (zg_eq (zg_ne rfl (zg_eq (zg_eq (mb_52 x))))) rfl (zg_lt (zg_ne rfl (zg_ne rfl (zg_eq rfl)))) (by decide +kernel) ?_
  refine zw_aload_n 6 f166_5 rfl rfl ?_
  refine zw_aload_n 7 f166_6 rfl rfl ?_
  refine zw_getfield 10 f166_7 rfl g166_249_12 (zg_eq (zg_eq (zg_ne rfl (zg_eq (zg_eq (mb_52 x)))))) (zg_ne rfl (zg_ne rfl (zg_eq (zg_ne rfl rfl)))) ?_
  refine zw_putfieldS 13 f166_10 rfl g166_40_12 (zg_eq (zg_eq (zg_ne rfl (zg_eq (zg_eq (mb_52 x)))))) rfl (zg_ne rfl (zg_ne rfl (zg_ne rfl (zg_ne rfl rfl)))) (by decide +kernel) ?_
  refine zw_aload_n 14 f166_13 rfl rfl ?_
  refine zw_aload_n 15 f166_14 rfl rfl ?_
  refine zw_getfield 18 f166_15 rfl g166_252_12 (zg_eq (zg_eq (zg_ne rfl (zg_eq (zg_eq (mb_52 x)))))) (zg_ne rfl (zg_ne rfl (zg_ne rfl (zg_ne rfl rfl)))) ?_
  refine zw_putfieldS 21 f166_18 rfl g166_172_12 (zg_eq (zg_eq (zg_ne rfl (zg_eq (zg_eq (mb_52 x)))))) rfl (zg_ne rfl (zg_ne rfl (zg_ne rfl (zg_ne rfl rfl)))) (by decide +kernel) ?_
  refine zw_aload_n 22 f166_21 rfl rfl ?_
  refine zw_aload_n 23 f166_22 rfl rfl ?_
  refine zw_getfield 26 f166_23 rfl g166_255_12 (zg_eq (zg_eq (zg_ne rfl (zg_eq (zg_eq (mb_52 x)))))) (zg_ne rfl (zg_ne rfl (zg_ne rfl (zg_ne rfl rfl)))) ?_
  refine zw_putfieldS 29 f166_26 rfl g166_175_12 (zg_eq (zg_eq (zg_ne rfl (zg_eq (zg_eq (mb_52 x)))))) rfl (zg_ne rfl (zg_ne rfl (zg_ne rfl (zg_ne rfl rfl)))) (by decide +kernel) ?_
  refine zw_aload_n 30 f166_29 rfl rfl ?_
  refine zw_aload_n 31 f166_30 rfl rfl ?_
  refine zw_getfield 34 f166_31 rfl g166_258_12 (zg_eq (zg_eq (zg_ne rfl (zg_eq (zg_eq (mb_52 x)))))) (zg_ne rfl (zg_ne rfl (zg_ne rfl (zg_ne rfl rfl)))) ?_
  refine zw_putfieldS 37 f166_34 rfl g166_178_12 (zg_eq (zg_eq (zg_ne rfl (zg_eq (zg_eq (mb_52 x)))))) rfl (zg_ne rfl (zg_ne rfl (zg_ne rfl (zg_ne rfl rfl)))) (by decide +kernel) ?_
  refine zw_aload_n 38 f166_37 rfl rfl ?_
  refine zw_aload_n 39 f166_38 rfl rfl ?_
  refine zw_getfield 42 f166_39 rfl g166_261_12 (zg_eq (zg_eq (zg_ne rfl (zg_eq (zg_eq (mb_52 x)))))) (zg_ne rfl (zg_ne rfl (zg_ne rfl (zg_ne rfl rfl)))) ?_
  refine zw_putfieldS 45 f166_42 rfl g166_183_12 (zg_eq (zg_eq (zg_ne rfl (zg_eq (zg_eq (mb_52 x)))))) rfl (zg_ne rfl (zg_ne rfl (zg_ne rfl (zg_ne rfl rfl)))) (by decide +kernel) ?_
  refine zw_iconst 0 46 f166_45 rfl (by decide +kernel) ?_
  refine zw_istore_n [(1, .int 0), (0, .ref 52)] 47 f166_46 rfl (by decide +kernel) rfl ?_
  refine zw_iload_n 48 f166_47 rfl rfl ?_
  refine zw_bipush 8 50 f166_48 rfl (by decide +kernel) ?_
  refine zw_ic_ge_f 53 95 f166_50 (by decide +kernel) rfl (by decide +kernel) ?_
  refine zw_aload_n 54 f166_53 rfl rfl ?_
  refine zw_getfield 57 f166_54 rfl g166_44_12 (zg_eq (zg_eq (zg_ne rfl (zg_eq (zg_eq (mb_52 x)))))) (zg_ne rfl (zg_ne rfl (zg_ne rfl (zg_ne rfl rfl)))) ?_
  refine zw_iload_n 58 f166_57 rfl rfl ?_
  refine zw_aload_n 59 f166_58 rfl rfl ?_
  refine zw_getfield 62 f166_59 rfl g166_96_12 (zg_eq (zg_eq (zg_ne rfl (zg_eq (zg_eq (mb_52 x)))))) (zg_ne rfl (zg_ne rfl (zg_ne rfl (zg_ne rfl rfl)))) ?_
  refine zw_iload_n 63 f166_62 rfl rfl ?_
  refine zw_laload 0 0 64 f166_63 rfl (zg_ne rfl (zg_ne rfl (zg_ne rfl (zg_ne rfl (zg_ne rfl (mb_77 x)))))) (by decide +kernel) (by decide +kernel) (by decide +kernel) rfl ?_
  refine zw_lastoreS 0 65 f166_64 rfl (zg_ne rfl (zg_ne rfl (zg_ne rfl (zg_ne rfl (zg_ne rfl (mb_63 x)))))) (by decide +kernel) (by decide +kernel) (by decide +kernel) rfl ?_
  refine zw_aload_n 66 f166_65 rfl rfl ?_
  refine zw_getfield 69 f166_66 rfl g166_52_12 (zg_eq (zg_eq (zg_ne rfl (zg_eq (zg_eq (mb_52 x)))))) (zg_ne rfl (zg_ne rfl (zg_ne rfl (zg_ne rfl rfl)))) ?_
  refine zw_iload_n 70 f166_69 rfl rfl ?_
  refine zw_aload_n 71 f166_70 rfl rfl ?_
  refine zw_getfield 74 f166_71 rfl g166_102_12 (zg_eq (zg_eq (zg_ne rfl (zg_eq (zg_eq (mb_52 x)))))) (zg_ne rfl (zg_ne rfl (zg_ne rfl (zg_ne rfl rfl)))) ?_
  refine zw_iload_n 75 f166_74 rfl rfl ?_
  refine zw_baload 0 0 76 f166_75 rfl (zg_ne rfl (zg_ne rfl (zg_ne rfl (zg_ne rfl (zg_ne rfl (mb_79 x)))))) (by decide +kernel) (by decide +kernel) (by decide +kernel) rfl ?_
  refine zw_bastoreS 0 77 f166_76 rfl (zg_ne rfl (zg_ne rfl (zg_ne rfl (zg_ne rfl (zg_ne rfl (mb_65 x)))))) (by decide +kernel) (by decide +kernel) (by decide +kernel) (by decide +kernel) ?_
  refine zw_aload_n 78 f166_77 rfl rfl ?_
  refine zw_getfield 81 f166_78 rfl g166_55_12 (zg_eq (zg_eq (zg_ne rfl (zg_eq (zg_eq (mb_52 x)))))) (zg_ne rfl (zg_ne rfl (zg_ne rfl (zg_ne rfl rfl)))) ?_
  refine zw_iload_n 82 f166_81 rfl rfl ?_
  refine zw_aload_n 83 f166_82 rfl rfl ?_
  refine zw_getfield 86 f166_83 rfl g166_105_12 (zg_eq (zg_eq (zg_ne rfl (zg_eq (zg_eq (mb_52 x)))))) (zg_ne rfl (zg_ne rfl (zg_ne rfl (zg_ne rfl rfl)))) ?_
  refine zw_iload_n 87 f166_86 rfl rfl ?_
  refine zw_iaload 0 0 88 f166_87 rfl (zg_ne rfl (zg_ne rfl (zg_ne rfl (zg_ne rfl (zg_ne rfl (mb_80 x)))))) (by decide +kernel) (by decide +kernel) (by decide +kernel) rfl ?_
  refine zw_iastoreS 0 89 f166_88 rfl (zg_ne rfl (zg_ne rfl (zg_ne rfl (zg_ne rfl (zg_ne rfl (mb_66 x)))))) (by decide +kernel) (by decide +kernel) (by decide +kernel) rfl ?_
  refine zw_iinc 1 [(1, .int 1), (0, .ref 52)] 92 f166_89 rfl rfl (by decide +kernel) (by decide +kernel) rfl ?_
  refine zw_goto 47 f166_92 (by decide +kernel) ?_
  refine zw_iload_n 48 f166_47 rfl rfl ?_
  refine zw_bipush 8 50 f166_48 rfl (by decide +kernel) ?_
  refine zw_ic_ge_f 53 95 f166_50 (by decide +kernel) rfl (by decide +kernel) ?_
  refine zw_aload_n 54 f166_53 rfl rfl ?_
  refine zw_getfield 57 f166_54 rfl g166_44_12 (zg_eq (zg_eq (zg_ne rfl (zg_eq (zg_eq (mb_52 x)))))) (zg_ne rfl (zg_ne rfl (zg_ne rfl (zg_ne rfl rfl)))) ?_
  refine zw_iload_n 58 f166_57 rfl rfl ?_
  refine zw_aload_n 59 f166_58 rfl rfl ?_
  refine zw_getfield 62 f166_59 rfl g166_96_12 (zg_eq (zg_eq (zg_ne rfl (zg_eq (zg_eq (mb_52 x)))))) (zg_ne rfl (zg_ne rfl (zg_ne rfl (zg_ne rfl rfl)))) ?_
  refine zw_iload_n 63 f166_62 rfl rfl ?_
  refine zw_laload 1 0 64 f166_63 rfl (zg_ne rfl (zg_ne rfl (zg_ne rfl (zg_ne rfl (zg_ne rfl (mb_77 x)))))) (by decide +kernel) (by decide +kernel) (by decide +kernel) rfl ?_
  refine zw_lastoreS 1 65 f166_64 rfl (zg_ne rfl (zg_ne rfl (zg_ne rfl (zg_ne rfl (zg_ne rfl (mb_63 x)))))) (by decide +kernel) (by decide +kernel) (by decide +kernel) rfl ?_
  refine zw_aload_n 66 f166_65 rfl rfl ?_
  refine zw_getfield 69 f166_66 rfl g166_52_12 (zg_eq (zg_eq (zg_ne rfl (zg_eq (zg_eq (mb_52 x)))))) (zg_ne rfl (zg_ne rfl (zg_ne rfl (zg_ne rfl rfl)))) ?_
  refine zw_iload_n 70 f166_69 rfl rfl ?_
  refine zw_aload_n 71 f166_70 rfl rfl ?_
  refine zw_getfield 74 f166_71 rfl g166_102_12 (zg_eq (zg_eq (zg_ne rfl (zg_eq (zg_eq (mb_52 x)))))) (zg_ne rfl (zg_ne rfl (zg_ne rfl (zg_ne rfl rfl)))) ?_
  refine zw_iload_n 75 f166_74 rfl rfl ?_
  refine zw_baload 1 0 76 f166_75 rfl (zg_ne rfl (zg_ne rfl (zg_ne rfl (zg_ne rfl (zg_ne rfl (mb_79 x)))))) (by decide +kernel) (by decide +kernel) (by decide +kernel) rfl ?_
  refine zw_bastoreS 1 77 f166_76 rfl (zg_ne rfl (zg_ne rfl (zg_ne rfl (zg_ne rfl (zg_ne rfl (mb_65 x)))))) (by decide +kernel) (by decide +kernel) (by decide +kernel) (by decide +kernel) ?_
  refine zw_aload_n 78 f166_77 rfl rfl ?_
  refine zw_getfield 81 f166_78 rfl g166_55_12 (zg_eq (zg_eq (zg_ne rfl (zg_eq (zg_eq (mb_52 x)))))) (zg_ne rfl (zg_ne rfl (zg_ne rfl (zg_ne rfl rfl)))) ?_
  refine zw_iload_n 82 f166_81 rfl rfl ?_
  refine zw_aload_n 83 f166_82 rfl rfl ?_
  refine zw_getfield 86 f166_83 rfl g166_105_12 (zg_eq (zg_eq (zg_ne rfl (zg_eq (zg_eq (mb_52 x)))))) (zg_ne rfl (zg_ne rfl (zg_ne rfl (zg_ne rfl rfl)))) ?_
  refine zw_iload_n 87 f166_86 rfl rfl ?_
  refine zw_iaload 1 0 88 f166_87 rfl (zg_ne rfl (zg_ne rfl (zg_ne rfl (zg_ne rfl (zg_ne rfl (mb_80 x)))))) (by decide +kernel) (by decide +kernel) (by decide +kernel) rfl ?_
  refine zw_iastoreS 1 89 f166_88 rfl (zg_ne rfl (zg_ne rfl (zg_ne rfl (zg_ne rfl (zg_ne rfl (mb_66 x)))))) (by decide +kernel) (by decide +kernel) (by decide +kernel) rfl ?_
  refine zw_iinc 2 [(1, .int 2), (0, .ref 52)] 92 f166_89 rfl rfl (by decide +kernel) (by decide +kernel) rfl ?_
  refine zw_goto 47 f166_92 (by decide +kernel) ?_
  refine zw_iload_n 48 f166_47 rfl rfl ?_
  refine zw_bipush 8 50 f166_48 rfl (by decide +kernel) ?_
  refine zw_ic_ge_f 53 95 f166_50 (by decide +kernel) rfl (by decide +kernel) ?_
  refine zw_aload_n 54 f166_53 rfl rfl ?_
  refine zw_getfield 57 f166_54 rfl g166_44_12 (zg_eq (zg_eq (zg_ne rfl (zg_eq (zg_eq (mb_52 x)))))) (zg_ne rfl (zg_ne rfl (zg_ne rfl (zg_ne rfl rfl)))) ?_
  refine zw_iload_n 58 f166_57 rfl rfl ?_
  refine zw_aload_n 59 f166_58 rfl rfl ?_
  refine zw_getfield 62 f166_59 rfl g166_96_12 (zg_eq (zg_eq (zg_ne rfl (zg_eq (zg_eq (mb_52 x)))))) (zg_ne rfl (zg_ne rfl (zg_ne rfl (zg_ne rfl rfl)))) ?_
  refine zw_iload_n 63 f166_62 rfl rfl ?_
  refine zw_laload 2 0 64 f166_63 rfl (zg_ne rfl (zg_ne rfl (zg_ne rfl (zg_ne rfl (zg_ne rfl (mb_77 x)))))) (by decide +kernel) (by decide +kernel) (by decide +kernel) rfl ?_
  refine zw_lastoreS 2 65 f166_64 rfl (zg_ne rfl (zg_ne rfl (zg_ne rfl (zg_ne rfl (zg_ne rfl (mb_63 x)))))) (by decide +kernel) (by decide +kernel) (by decide +kernel) rfl ?_
  refine zw_aload_n 66 f166_65 rfl rfl ?_
  refine zw_getfield 69 f166_66 rfl g166_52_12 (zg_eq (zg_eq (zg_ne rfl (zg_eq (zg_eq (mb_52 x)))))) (zg_ne rfl (zg_ne rfl (zg_ne rfl (zg_ne rfl rfl)))) ?_
  refine zw_iload_n 70 f166_69 rfl rfl ?_
  refine zw_aload_n 71 f166_70 rfl rfl ?_
  refine zw_getfield 74 f166_71 rfl g166_102_12 (zg_eq (zg_eq (zg_ne rfl (zg_eq (zg_eq (mb_52 x)))))) (zg_ne rfl (zg_ne rfl (zg_ne rfl (zg_ne rfl rfl)))) ?_
  refine zw_iload_n 75 f166_74 rfl rfl ?_
  refine zw_baload 2 0 76 f166_75 rfl (zg_ne rfl (zg_ne rfl (zg_ne rfl (zg_ne rfl (zg_ne rfl (mb_79 x)))))) (by decide +kernel) (by decide +kernel) (by decide +kernel) rfl ?_
  refine zw_bastoreS 2 77 f166_76 rfl (zg_ne rfl (zg_ne rfl (zg_ne rfl (zg_ne rfl (zg_ne rfl (mb_65 x)))))) (by decide +kernel) (by decide +kernel) (by decide +kernel) (by decide +kernel) ?_
  refine zw_aload_n 78 f166_77 rfl rfl ?_
  refine zw_getfield 81 f166_78 rfl g166_55_12 (zg_eq (zg_eq (zg_ne rfl (zg_eq (zg_eq (mb_52 x)))))) (zg_ne rfl (zg_ne rfl (zg_ne rfl (zg_ne rfl rfl)))) ?_
  refine zw_iload_n 82 f166_81 rfl rfl ?_
  refine zw_aload_n 83 f166_82 rfl rfl ?_
  refine zw_getfield 86 f166_83 rfl g166_105_12 (zg_eq (zg_eq (zg_ne rfl (zg_eq (zg_eq (mb_52 x)))))) (zg_ne rfl (zg_ne rfl (zg_ne rfl (zg_ne rfl rfl)))) ?_
  refine zw_iload_n 87 f166_86 rfl rfl ?_
  refine zw_iaload 2 0 88 f166_87 rfl (zg_ne rfl (zg_ne rfl (zg_ne rfl (zg_ne rfl (zg_ne rfl (mb_80 x)))))) (by decide +kernel) (by decide +kernel) (by decide +kernel) rfl ?_
  refine zw_iastoreS 2 89 f166_88 rfl (zg_ne rfl (zg_ne rfl (zg_ne rfl (zg_ne rfl (zg_ne rfl (mb_66 x)))))) (by decide +kernel) (by decide +kernel) (by decide +kernel) rfl ?_
  refine zw_iinc 3 [(1, .int 3), (0, .ref 52)] 92 f166_89 rfl rfl (by decide +kernel) (by decide +kernel) rfl ?_
  refine zw_goto 47 f166_92 (by decide +kernel) ?_
  refine zw_iload_n 48 f166_47 rfl rfl ?_
  refine zw_bipush 8 50 f166_48 rfl (by decide +kernel) ?_
  refine zw_ic_ge_f 53 95 f166_50 (by decide +kernel) rfl (by decide +kernel) ?_
  refine zw_aload_n 54 f166_53 rfl rfl ?_
  refine zw_getfield 57 f166_54 rfl g166_44_12 (zg_eq (zg_eq (zg_ne rfl (zg_eq (zg_eq (mb_52 x)))))) (zg_ne rfl (zg_ne rfl (zg_ne rfl (zg_ne rfl rfl)))) ?_
  refine zw_iload_n 58 f166_57 rfl rfl ?_
  refine zw_aload_n 59 f166_58 rfl rfl ?_
  refine zw_getfield 62 f166_59 rfl g166_96_12 (zg_eq (zg_eq (zg_ne rfl (zg_eq (zg_eq (mb_52 x)))))) (zg_ne rfl (zg_ne rfl (zg_ne rfl (zg_ne rfl rfl)))) ?_
  refine zw_iload_n 63 f166_62 rfl rfl ?_
  refine zw_laload 3 0 64 f166_63 rfl (zg_ne rfl (zg_ne rfl (zg_ne rfl (zg_ne rfl (zg_ne rfl (mb_77 x)))))) (by decide +kernel) (by decide +kernel) (by decide +kernel) rfl ?_
  refine zw_lastoreS 3 65 f166_64 rfl (zg_ne rfl (zg_ne rfl (zg_ne rfl (zg_ne rfl (zg_ne rfl (mb_63 x)))))) (by decide +kernel) (by decide +kernel) (by decide +kernel) rfl ?_
  refine zw_aload_n 66 f166_65 rfl rfl ?_
  refine zw_getfield 69 f166_66 rfl g166_52_12 (zg_eq (zg_eq (zg_ne rfl (zg_eq (zg_eq (mb_52 x)))))) (zg_ne rfl (zg_ne rfl (zg_ne rfl (zg_ne rfl rfl)))) ?_
  refine zw_iload_n 70 f166_69 rfl rfl ?_
  refine zw_aload_n 71 f166_70 rfl rfl ?_
  refine zw_getfield 74 f166_71 rfl g166_102_12 (zg_eq (zg_eq (zg_ne rfl (zg_eq (zg_eq (mb_52 x)))))) (zg_ne rfl (zg_ne rfl (zg_ne rfl (zg_ne rfl rfl)))) ?_
  refine zw_iload_n 75 f166_74 rfl rfl ?_
  refine zw_baload 3 0 76 f166_75 rfl (zg_ne rfl (zg_ne rfl (zg_ne rfl (zg_ne rfl (zg_ne rfl (mb_79 x)))))) (by decide +kernel) (by decide +kernel) (by decide +kernel) rfl ?_
  refine zw_bastoreS 3 77 f166_76 rfl (zg_ne rfl (zg_ne rfl (zg_ne rfl (zg_ne rfl (zg_ne rfl (mb_65 x)))))) (by decide +kernel) (by decide +kernel) (by decide +kernel) (by decide +kernel) ?_
  refine zw_aload_n 78 f166_77 rfl rfl ?_
  refine zw_getfield 81 f166_78 rfl g166_55_12 (zg_eq (zg_eq (zg_ne rfl (zg_eq (zg_eq (mb_52 x)))))) (zg_ne rfl (zg_ne rfl (zg_ne rfl (zg_ne rfl rfl)))) ?_
  refine zw_iload_n 82 f166_81 rfl rfl ?_
  refine zw_aload_n 83 f166_82 rfl rfl ?_
  refine zw_getfield 86 f166_83 rfl g166_105_12 (zg_eq (zg_eq (zg_ne rfl (zg_eq (zg_eq (mb_52 x)))))) (zg_ne rfl (zg_ne rfl (zg_ne rfl (zg_ne rfl rfl)))) ?_
  refine zw_iload_n 87 f166_86 rfl rfl ?_
  refine zw_iaload 3 0 88 f166_87 rfl (zg_ne rfl (zg_ne rfl (zg_ne rfl (zg_ne rfl (zg_ne rfl (mb_80 x)))))) (by decide +kernel) (by decide +kernel) (by decide +kernel) rfl ?_
  refine zw_iastoreS 3 89 f166_88 rfl (zg_ne rfl (zg_ne rfl (zg_ne rfl (zg_ne rfl (zg_ne rfl (mb_66 x)))))) (by decide +kernel) (by decide +kernel) (by decide +kernel) rfl ?_
  refine zw_iinc 4 [(1, .int 4), (0, .ref 52)] 92 f166_89 rfl rfl (by decide +kernel) (by decide +kernel) rfl ?_
  refine zw_goto 47 f166_92 (by decide +kernel) ?_
  refine zw_iload_n 48 f166_47 rfl rfl ?_
  refine zw_bipush 8 50 f166_48 rfl (by decide +kernel) ?_
  refine zw_ic_ge_f 53 95 f166_50 (by decide +kernel) rfl (by decide +kernel) ?_
  refine zw_aload_n 54 f166_53 rfl rfl ?_
  refine zw_getfield 57 f166_54 rfl g166_44_12 (zg_eq (zg_eq (zg_ne rfl (zg_eq (zg_eq (mb_52 x)))))) (zg_ne rfl (zg_ne rfl (zg_ne rfl (zg_ne rfl rfl)))) ?_
  refine zw_iload_n 58 f166_57 rfl rfl ?_
  refine zw_aload_n 59 f166_58 rfl rfl ?_
  refine zw_getfield 62 f166_59 rfl g166_96_12 (zg_eq (zg_eq (zg_ne rfl (zg_eq (zg_eq (mb_52 x)))))) (zg_ne rfl (zg_ne rfl (zg_ne rfl (zg_ne rfl rfl)))) ?_
  refine zw_iload_n 63 f166_62 rfl rfl ?_
  refine zw_laload 4 0 64 f166_63 rfl (zg_ne rfl (zg_ne rfl (zg_ne rfl (zg_ne rfl (zg_ne rfl (mb_77 x)))))) (by decide +kernel) (by decide +kernel) (by decide +kernel) rfl ?_
  refine zw_lastoreS 4 65 f166_64 rfl (zg_ne rfl (zg_ne rfl (zg_ne rfl (zg_ne rfl (zg_ne rfl (mb_63 x)))))) (by decide +kernel) (by decide +kernel) (by decide +kernel) rfl ?_
  refine zw_aload_n 66 f166_65 rfl rfl ?_
  refine zw_getfield 69 f166_66 rfl g166_52_12 (zg_eq (zg_eq (zg_ne rfl (zg_eq (zg_eq (mb_52 x)))))) (zg_ne rfl (zg_ne rfl (zg_ne rfl (zg_ne rfl rfl)))) ?_
  refine zw_iload_n 70 f166_69 rfl rfl ?_
  refine zw_aload_n 71 f166_70 rfl rfl ?_
  refine zw_getfield 74 f166_71 rfl g166_102_12 (zg_eq (zg_eq (zg_ne rfl (zg_eq (zg_eq (mb_52 x)))))) (zg_ne rfl (zg_ne rfl (zg_ne rfl (zg_ne rfl rfl)))) ?_
  refine zw_iload_n 75 f166_74 rfl rfl ?_
  refine zw_baload 4 0 76 f166_75 rfl (zg_ne rfl (zg_ne rfl (zg_ne rfl (zg_ne rfl (zg_ne rfl (mb_79 x)))))) (by decide +kernel) (by decide +kernel) (by decide +kernel) rfl ?_
  refine zw_bastoreS 4 77 f166_76 rfl (zg_ne rfl (zg_ne rfl (zg_ne rfl (zg_ne rfl (zg_ne rfl (mb_65 x)))))) (by decide +kernel) (by decide +kernel) (by decide +kernel) (by decide +kernel) ?_
  refine zw_aload_n 78 f166_77 rfl rfl ?_
  refine zw_getfield 81 f166_78 rfl g166_55_12 (zg_eq (zg_eq (zg_ne rfl (zg_eq (zg_eq (mb_52 x)))))) (zg_ne rfl (zg_ne rfl (zg_ne rfl (zg_ne rfl rfl)))) ?_
  refine zw_iload_n 82 f166_81 rfl rfl ?_
  refine zw_aload_n 83 f166_82 rfl rfl ?_
  refine zw_getfield 86 f166_83 rfl g166_105_12 (zg_eq (zg_eq (zg_ne rfl (zg_eq (zg_eq (mb_52 x)))))) (zg_ne rfl (zg_ne rfl (zg_ne rfl (zg_ne rfl rfl)))) ?_
  refine zw_iload_n 87 f166_86 rfl rfl ?_
  refine zw_iaload 4 0 88 f166_87 rfl (zg_ne rfl (zg_ne rfl (zg_ne rfl (zg_ne rfl (zg_ne rfl (mb_80 x)))))) (by decide +kernel) (by decide +kernel) (by decide +kernel) rfl ?_
  refine zw_iastoreS 4 89 f166_88 rfl (zg_ne rfl (zg_ne rfl (zg_ne rfl (zg_ne rfl (zg_ne rfl (mb_66 x)))))) (by decide +kernel) (by decide +kernel) (by decide +kernel) rfl ?_
  refine zw_iinc 5 [(1, .int 5), (0, .ref 52)] 92 f166_89 rfl rfl (by decide +kernel) (by decide +kernel) rfl ?_
  refine zw_goto 47 f166_92 (by decide +kernel) ?_
  refine zw_iload_n 48 f166_47 rfl rfl ?_
  refine zw_bipush 8 50 f166_48 rfl (by decide +kernel) ?_
  refine zw_ic_ge_f 53 95 f166_50 (by decide +kernel) rfl (by decide +kernel) ?_
  refine zw_aload_n 54 f166_53 rfl rfl ?_
  refine zw_getfield 57 f166_54 rfl g166_44_12 (zg_eq (zg_eq (zg_ne rfl (zg_eq (zg_eq (mb_52 x)))))) (zg_ne rfl (zg_ne rfl (zg_ne rfl (zg_ne rfl rfl)))) ?_
  refine zw_iload_n 58 f166_57 rfl rfl ?_
  refine zw_aload_n 59 f166_58 rfl rfl ?_
  refine zw_getfield 62 f166_59 rfl g166_96_12 (zg_eq (zg_eq (zg_ne rfl (zg_eq (zg_eq (mb_52 x)))))) (zg_ne rfl (zg_ne rfl (zg_ne rfl (zg_ne rfl rfl)))) ?_
  refine zw_iload_n 63 f166_62 rfl rfl ?_
  refine zw_laload 5 0 64 f166_63 rfl (zg_ne rfl (zg_ne rfl (zg_ne rfl (zg_ne rfl (zg_ne rfl (mb_77 x)))))) (by decide +kernel) (by decide +kernel) (by decide +kernel) rfl ?_
  refine zw_lastoreS 5 65 f166_64 rfl (zg_ne rfl (zg_ne rfl (zg_ne rfl (zg_ne rfl (zg_ne rfl (mb_63 x)))))) (by decide +kernel) (by decide +kernel) (by decide +kernel) rfl ?_
  refine zw_aload_n 66 f166_65 rfl rfl ?_
  refine zw_getfield 69 f166_66 rfl g166_52_12 (zg_eq (zg_eq (zg_ne rfl (zg_eq (zg_eq (mb_52 x)))))) (zg_ne rfl (zg_ne rfl (zg_ne rfl (zg_ne rfl rfl)))) ?_
  refine zw_iload_n 70 f166_69 rfl rfl ?_
  refine zw_aload_n 71 f166_70 rfl rfl ?_
  refine zw_getfield 74 f166_71 rfl g166_102_12 (zg_eq (zg_eq (zg_ne rfl (zg_eq (zg_eq (mb_52 x)))))) (zg_ne rfl (zg_ne rfl (zg_ne rfl (zg_ne rfl rfl)))) ?_
  refine zw_iload_n 75 f166_74 rfl rfl ?_
  refine zw_baload 5 0 76 f166_75 rfl (zg_ne rfl (zg_ne rfl (zg_ne rfl (zg_ne rfl (zg_ne rfl (mb_79 x)))))) (by decide +kernel) (by decide +kernel) (by decide +kernel) rfl ?_
  refine zw_bastoreS 5 77 f166_76 rfl (zg_ne rfl (zg_ne rfl (zg_ne rfl (zg_ne rfl (zg_ne rfl (mb_65 x)))))) (by decide +kernel) (by decide +kernel) (by decide +kernel) (by decide +kernel) ?_
  refine zw_aload_n 78 f166_77 rfl rfl ?_
  refine zw_getfield 81 f166_78 rfl g166_55_12 (zg_eq (zg_eq (zg_ne rfl (zg_eq (zg_eq (mb_52 x)))))) (zg_ne rfl (zg_ne rfl (zg_ne rfl (zg_ne rfl rfl)))) ?_
  refine zw_iload_n 82 f166_81 rfl rfl ?_
  refine zw_aload_n 83 f166_82 rfl rfl ?_
  refine zw_getfield 86 f166_83 rfl g166_105_12 (zg_eq (zg_eq (zg_ne rfl (zg_eq (zg_eq (mb_52 x)))))) (zg_ne rfl (zg_ne rfl (zg_ne rfl (zg_ne rfl rfl)))) ?_
  refine zw_iload_n 87 f166_86 rfl rfl ?_
  refine zw_iaload 5 0 88 f166_87 rfl (zg_ne rfl (zg_ne rfl (zg_ne rfl (zg_ne rfl (zg_ne rfl (mb_80 x)))))) (by decide +kernel) (by decide +kernel) (by decide +kernel) rfl ?_
  refine zw_iastoreS 5 89 f166_88 rfl (zg_ne rfl (zg_ne rfl (zg_ne rfl (zg_ne rfl (zg_ne rfl (mb_66 x)))))) (by decide +kernel) (by decide +kernel) (by decide +kernel) rfl ?_
  refine zw_iinc 6 [(1, .int 6), (0, .ref 52)] 92 f166_89 rfl rfl (by decide +kernel) (by decide +kernel) rfl ?_
  refine zw_goto 47 f166_92 (by decide +kernel) ?_
  refine zw_iload_n 48 f166_47 rfl rfl ?_
  refine zw_bipush 8 50 f166_48 rfl (by decide +kernel) ?_
  refine zw_ic_ge_f 53 95 f166_50 (by decide +kernel) rfl (by decide +kernel) ?_
  refine zw_aload_n 54 f166_53 rfl rfl ?_
  refine zw_getfield 57 f166_54 rfl g166_44_12 (zg_eq (zg_eq (zg_ne rfl (zg_eq (zg_eq (mb_52 x)))))) (zg_ne rfl (zg_ne rfl (zg_ne rfl (zg_ne rfl rfl)))) ?_
  refine zw_iload_n 58 f166_57 rfl rfl ?_
  refine zw_aload_n 59 f166_58 rfl rfl ?_
  refine zw_getfield 62 f166_59 rfl g166_96_12 (zg_eq (zg_eq (zg_ne rfl (zg_eq (zg_eq (mb_52 x)))))) (zg_ne rfl (zg_ne rfl (zg_ne rfl (zg_ne rfl rfl)))) ?_
  refine zw_iload_n 63 f166_62 rfl rfl ?_
  refine zw_laload 6 0 64 f166_63 rfl (zg_ne rfl (zg_ne rfl (zg_ne rfl (zg_ne rfl (zg_ne rfl (mb_77 x)))))) (by decide +kernel) (by decide +kernel) (by decide +kernel) rfl ?_
  refine zw_lastoreS 6 65 f166_64 rfl (zg_ne rfl (zg_ne rfl (zg_ne rfl (zg_ne rfl (zg_ne rfl (mb_63 x)))))) (by decide +kernel) (by decide +kernel) (by decide +kernel) rfl ?_
  refine zw_aload_n 66 f166_65 rfl rfl ?_
  refine zw_getfield 69 f166_66 rfl g166_52_12 (zg_eq (zg_eq (zg_ne rfl (zg_eq (zg_eq (mb_52 x)))))) (zg_ne rfl (zg_ne rfl (zg_ne rfl (zg_ne rfl rfl)))) ?_
  refine zw_iload_n 70 f166_69 rfl rfl ?_
  refine zw_aload_n 71 f166_70 rfl rfl ?_
  refine zw_getfield 74 f166_71 rfl g166_102_12 (zg_eq (zg_eq (zg_ne rfl (zg_eq (zg_eq (mb_52 x)))))) (zg_ne rfl (zg_ne rfl (zg_ne rfl (zg_ne rfl rfl)))) ?_
  refine zw_iload_n 75 f166_74 rfl rfl ?_
  refine zw_baload 6 0 76 f166_75 rfl (zg_ne rfl (zg_ne rfl (zg_ne rfl (zg_ne rfl (zg_ne rfl (mb_79 x)))))) (by decide +kernel) (by decide +kernel) (by decide +kernel) rfl ?_
  refine zw_bastoreS 6 77 f166_76 rfl (zg_ne rfl (zg_ne rfl (zg_ne rfl (zg_ne rfl (zg_ne rfl (mb_65 x)))))) (by decide +kernel) (by decide +kernel) (by decide +kernel) (by decide +kernel) ?_
  refine zw_aload_n 78 f166_77 rfl rfl ?_
  refine zw_getfield 81 f166_78 rfl g166_55_12 (zg_eq (zg_eq (zg_ne rfl (zg_eq (zg_eq (mb_52 x)))))) (zg_ne rfl (zg_ne rfl (zg_ne rfl (zg_ne rfl rfl)))) ?_
  refine zw_iload_n 82 f166_81 rfl rfl ?_
  refine zw_aload_n 83 f166_82 rfl rfl ?_
  refine zw_getfield 86 f166_83 rfl g166_105_12 (zg_eq (zg_eq (zg_ne rfl (zg_eq (zg_eq (mb_52 x)))))) (zg_ne rfl (zg_ne rfl (zg_ne rfl (zg_ne rfl rfl)))) ?_
  refine zw_iload_n 87 f166_86 rfl rfl ?_
  refine zw_iaload 6 0 88 f166_87 rfl (zg_ne rfl (zg_ne rfl (zg_ne rfl (zg_ne rfl (zg_ne rfl (mb_80 x)))))) (by decide +kernel) (by decide +kernel) (by decide +kernel) rfl ?_
  refine zw_iastoreS 6 89 f166_88 rfl (zg_ne rfl (zg_ne rfl (zg_ne rfl (zg_ne rfl (zg_ne rfl (mb_66 x)))))) (by decide +kernel) (by decide +kernel) (by decide +kernel) rfl ?_
  refine zw_iinc 7 [(1, .int 7), (0, .ref 52)] 92 f166_89 rfl rfl (by decide +kernel) (by decide +kernel) rfl ?_
  refine zw_goto 47 f166_92 (by decide +kernel) ?_
  refine zw_iload_n 48 f166_47 rfl rfl ?_
  refine zw_bipush 8 50 f166_48 rfl (by decide +kernel) ?_
  refine zw_ic_ge_f 53 95 f166_50 (by decide +kernel) rfl (by decide +kernel) ?_
  refine zw_aload_n 54 f166_53 rfl rfl ?_
  refine zw_getfield 57 f166_54 rfl g166_44_12 (zg_eq (zg_eq (zg_ne rfl (zg_eq (zg_eq (mb_52 x)))))) (zg_ne rfl (zg_ne rfl (zg_ne rfl (zg_ne rfl rfl)))) ?_
  refine zw_iload_n 58 f166_57 rfl rfl ?_
  refine zw_aload_n 59 f166_58 rfl rfl ?_
  refine zw_getfield 62 f166_59 rfl g166_96_12 (zg_eq (zg_eq (zg_ne rfl (zg_eq (zg_eq (mb_52 x)))))) (zg_ne rfl (zg_ne rfl (zg_ne rfl (zg_ne rfl rfl)))) ?_
  refine zw_iload_n 63 f166_62 rfl rfl ?_
  refine zw_laload 7 0 64 f166_63 rfl (zg_ne rfl (zg_ne rfl (zg_ne rfl (zg_ne rfl (zg_ne rfl (mb_77 x)))))) (by decide +kernel) (by decide +kernel) (by decide +kernel) rfl ?_
  refine zw_lastoreS 7 65 f166_64 rfl (zg_ne rfl (zg_ne rfl (zg_ne rfl (zg_ne rfl (zg_ne rfl (mb_63 x)))))) (by decide +kernel) (by decide +kernel) (by decide +kernel) rfl ?_
  refine zw_aload_n 66 f166_65 rfl rfl ?_
  refine zw_getfield 69 f166_66 rfl g166_52_12 (zg_eq (zg_eq (zg_ne rfl (zg_eq (zg_eq (mb_52 x)))))) (zg_ne rfl (zg_ne rfl (zg_ne rfl (zg_ne rfl rfl)))) ?_
  refine zw_iload_n 70 f166_69 rfl rfl ?_
  refine zw_aload_n 71 f166_70 rfl rfl ?_
  refine zw_getfield 74 f166_71 rfl g166_102_12 (zg_eq (zg_eq (zg_ne rfl (zg_eq (zg_eq (mb_52 x)))))) (zg_ne rfl (zg_ne rfl (zg_ne rfl (zg_ne rfl rfl)))) ?_
  refine zw_iload_n 75 f166_74 rfl rfl ?_
  refine zw_baload 7 0 76 f166_75 rfl (zg_ne rfl (zg_ne rfl (zg_ne rfl (zg_ne rfl (zg_ne rfl (mb_79 x)))))) (by decide +kernel) (by decide +kernel) (by decide +kernel) rfl ?_
  refine zw_bastoreS 7 77 f166_76 rfl (zg_ne rfl (zg_ne rfl (zg_ne rfl (zg_ne rfl (zg_ne rfl (mb_65 x)))))) (by decide +kernel) (by decide +kernel) (by decide +kernel) (by decide +kernel) ?_
  refine zw_aload_n 78 f166_77 rfl rfl ?_
  refine zw_getfield 81 f166_78 rfl g166_55_12 (zg_eq (zg_eq (zg_ne rfl (zg_eq (zg_eq (mb_52 x)))))) (zg_ne rfl (zg_ne rfl (zg_ne rfl (zg_ne rfl rfl)))) ?_
  refine zw_iload_n 82 f166_81 rfl rfl ?_
  refine zw_aload_n 83 f166_82 rfl rfl ?_
  refine zw_getfield 86 f166_83 rfl g166_105_12 (zg_eq (zg_eq (zg_ne rfl (zg_eq (zg_eq (mb_52 x)))))) (zg_ne rfl (zg_ne rfl (zg_ne rfl (zg_ne rfl rfl)))) ?_
  refine zw_iload_n 87 f166_86 rfl rfl ?_
  refine zw_iaload 7 0 88 f166_87 rfl (zg_ne rfl (zg_ne rfl (zg_ne rfl (zg_ne rfl (zg_ne rfl (mb_80 x)))))) (by decide +kernel) (by decide +kernel) (by decide +kernel) rfl ?_
  refine zw_iastoreS 7 89 f166_88 rfl (zg_ne rfl (zg_ne rfl (zg_ne rfl (zg_ne rfl (zg_ne rfl (mb_66 x)))))) (by decide +kernel) (by decide +kernel) (by decide +kernel) rfl ?_
  refine zw_iinc 8 [(1, .int 8), (0, .ref 52)] 92 f166_89 rfl rfl (by decide +kernel) (by decide +kernel) rfl ?_
  refine zw_goto 47 f166_92 (by decide +kernel) ?_
  refine zw_iload_n 48 f166_47 rfl rfl ?_
  refine zw_bipush 8 50 f166_48 rfl (by decide +kernel) ?_
  refine zw_ic_ge_t 95 f166_50 (by decide +kernel) (by decide +kernel) ?_
  refine zw_iconst 0 96 f166_95 rfl (by decide +kernel) ?_
  refine zw_istore_n [(1, .int 0), (0, .ref 52)] 97 f166_96 rfl (by decide +kernel) rfl ?_
  refine zw_iload_n 98 f166_97 rfl rfl ?_
  refine zw_bipush 14 100 f166_98 rfl (by decide +kernel) ?_
  refine zw_ic_ge_f 103 121 f166_100 (by decide +kernel) rfl (by decide +kernel) ?_
  refine zw_aload_n 104 f166_103 rfl rfl ?_
  refine zw_getfield 107 f166_104 rfl g166_48_12 (zg_eq (zg_eq (zg_ne rfl (zg_eq (zg_eq (mb_52 x)))))) (zg_ne rfl (zg_ne rfl (zg_ne rfl (zg_ne rfl rfl)))) ?_
  refine zw_iload_n 108 f166_107 rfl rfl ?_
  refine zw_aload_n 109 f166_108 rfl rfl ?_
  refine zw_getfield 112 f166_109 rfl g166_99_12 (zg_eq (zg_eq (zg_ne rfl (zg_eq (zg_eq (mb_52 x)))))) (zg_ne rfl (zg_ne rfl (zg_ne rfl (zg_ne rfl rfl)))) ?_
  refine zw_iload_n 113 f166_112 rfl rfl ?_
  refine zw_baload 0 0 114 f166_113 rfl (zg_ne rfl (zg_ne rfl (zg_ne rfl (zg_ne rfl (zg_ne rfl (mb_78 x)))))) (by decide +kernel) (by decide +kernel) (by decide +kernel) rfl ?_
  refine zw_bastoreS 0 115 f166_114 rfl (zg_ne rfl (zg_ne rfl (zg_ne rfl (zg_ne rfl (zg_ne rfl (mb_64 x)))))) (by decide +kernel) (by decide +kernel) (by decide +kernel) (by decide +kernel) ?_
  refine zw_iinc 1 [(1, .int 1), (0, .ref 52)] 118 f166_115 rfl rfl (by decide +kernel) (by decide +kernel) rfl ?_
  refine zw_goto 97 f166_118 (by decide +kernel) ?_
  refine zw_iload_n 98 f166_97 rfl rfl ?_
  refine zw_bipush 14 100 f166_98 rfl (by decide +kernel) ?_
  refine zw_ic_ge_f 103 121 f166_100 (by decide +kernel) rfl (by decide +kernel) ?_
  refine zw_aload_n 104 f166_103 rfl rfl ?_
  refine zw_getfield 107 f166_104 rfl g166_48_12 (zg_eq (zg_eq (zg_ne rfl (zg_eq (zg_eq (mb_52 x)))))) (zg_ne rfl (zg_ne rfl (zg_ne rfl (zg_ne rfl rfl)))) ?_
  refine zw_iload_n 108 f166_107 rfl rfl ?_
  refine zw_aload_n 109 f166_108 rfl rfl ?_
  refine zw_getfield 112 f166_109 rfl g166_99_12 (zg_eq (zg_eq (zg_ne rfl (zg_eq (zg_eq (mb_52 x)))))) (zg_ne rfl (zg_ne rfl (zg_ne rfl (zg_ne rfl rfl)))) ?_
  refine zw_iload_n 113 f166_112 rfl rfl ?_
  refine zw_baload 1 0 114 f166_113 rfl (zg_ne rfl (zg_ne rfl (zg_ne rfl (zg_ne rfl (zg_ne rfl (mb_78 x)))))) (by decide +kernel) (by decide +kernel) (by decide +kernel) rfl ?_
  refine zw_bastoreS 1 115 f166_114 rfl (zg_ne rfl (zg_ne rfl (zg_ne rfl (zg_ne rfl (zg_ne rfl (mb_64 x)))))) (by decide +kernel) (by decide +kernel) (by decide +kernel) (by decide +kernel) ?_
  refine zw_iinc 2 [(1, .int 2), (0, .ref 52)] 118 f166_115 rfl rfl (by decide +kernel) (by decide +kernel) rfl ?_
  refine zw_goto 97 f166_118 (by decide +kernel) ?_
  refine zw_iload_n 98 f166_97 rfl rfl ?_
  refine zw_bipush 14 100 f166_98 rfl (by decide +kernel) ?_
  refine zw_ic_ge_f 103 121 f166_100 (by decide +kernel) rfl (by decide +kernel) ?_
  refine zw_aload_n 104 f166_103 rfl rfl ?_
  refine zw_getfield 107 f166_104 rfl g166_48_12 (zg_eq (zg_eq (zg_ne rfl (zg_eq (zg_eq (mb_52 x)))))) (zg_ne rfl (zg_ne rfl (zg_ne rfl (zg_ne rfl rfl)))) ?_
  refine zw_iload_n 108 f166_107 rfl rfl ?_
  refine zw_aload_n 109 f166_108 rfl rfl ?_
  refine zw_getfield 112 f166_109 rfl g166_99_12 (zg_eq (zg_eq (zg_ne rfl (zg_eq (zg_eq (mb_52 x)))))) (zg_ne rfl (zg_ne rfl (zg_ne rfl (zg_ne rfl rfl)))) ?_
  refine zw_iload_n 113 f166_112 rfl rfl ?_
  refine zw_baload 2 0 114 f166_113 rfl (zg_ne rfl (zg_ne rfl (zg_ne rfl (zg_ne rfl (zg_ne rfl (mb_78 x)))))) (by decide +kernel) (by decide +kernel) (by decide +kernel) rfl ?_
  refine zw_bastoreS 2 115 f166_114 rfl (zg_ne rfl (zg_ne rfl (zg_ne rfl (zg_ne rfl (zg_ne rfl (mb_64 x)))))) (by decide +kernel) (by decide +kernel) (by decide +kernel) (by decide +kernel) ?_
  refine zw_iinc 3 [(1, .int 3), (0, .ref 52)] 118 f166_115 rfl rfl (by decide +kernel) (by decide +kernel) rfl ?_
  refine zw_goto 97 f166_118 (by decide +kernel) ?_
  refine zw_iload_n 98 f166_97 rfl rfl ?_
  refine zw_bipush 14 100 f166_98 rfl (by decide +kernel) ?_
  refine zw_ic_ge_f 103 121 f166_100 (by decide +kernel) rfl (by decide +kernel) ?_
  refine zw_aload_n 104 f166_103 rfl rfl ?_
  refine zw_getfield 107 f166_104 rfl g166_48_12 (zg_eq (zg_eq (zg_ne rfl (zg_eq (zg_eq (mb_52 x)))))) (zg_ne rfl (zg_ne rfl (zg_ne rfl (zg_ne rfl rfl)))) ?_
  refine zw_iload_n 108 f166_107 rfl rfl ?_
  refine zw_aload_n 109 f166_108 rfl rfl ?_
  refine zw_getfield 112 f166_109 rfl g166_99_12 (zg_eq (zg_eq (zg_ne rfl (zg_eq (zg_eq (mb_52 x)))))) (zg_ne rfl (zg_ne rfl (zg_ne rfl (zg_ne rfl rfl)))) ?_
  refine zw_iload_n 113 f166_112 rfl rfl ?_
  refine zw_baload 3 0 114 f166_113 rfl (zg_ne rfl (zg_ne rfl (zg_ne rfl (zg_ne rfl (zg_ne rfl (mb_78 x)))))) (by decide +kernel) (by decide +kernel) (by decide +kernel) rfl ?_
  refine zw_bastoreS 3 115 f166_114 rfl (zg_ne rfl (zg_ne rfl (zg_ne rfl (zg_ne rfl (zg_ne rfl (mb_64 x)))))) (by decide +kernel) (by decide +kernel) (by decide +kernel) (by decide +kernel) ?_
  refine zw_iinc 4 [(1, .int 4), (0, .ref 52)] 118 f166_115 rfl rfl (by decide +kernel) (by decide +kernel) rfl ?_
  refine zw_goto 97 f166_118 (by decide +kernel) ?_
  refine zw_iload_n 98 f166_97 rfl rfl ?_
  refine zw_bipush 14 100 f166_98 rfl (by decide +kernel) ?_
  refine zw_ic_ge_f 103 121 f166_100 (by decide +kernel) rfl (by decide +kernel) ?_
  refine zw_aload_n 104 f166_103 rfl rfl ?_
  refine zw_getfield 107 f166_104 rfl g166_48_12 (zg_eq (zg_eq (zg_ne rfl (zg_eq (zg_eq (mb_52 x)))))) (zg_ne rfl (zg_ne rfl (zg_ne rfl (zg_ne rfl rfl)))) ?_
  refine zw_iload_n 108 f166_107 rfl rfl ?_
  refine zw_aload_n 109 f166_108 rfl rfl ?_
  refine zw_getfield 112 f166_109 rfl g166_99_12 (zg_eq (zg_eq (zg_ne rfl (zg_eq (zg_eq (mb_52 x)))))) (zg_ne rfl (zg_ne rfl (zg_ne rfl (zg_ne rfl rfl)))) ?_
  refine zw_iload_n 113 f166_112 rfl rfl ?_
  refine zw_baload 4 0 114 f166_113 rfl (zg_ne rfl (zg_ne rfl (zg_ne rfl (zg_ne rfl (zg_ne rfl (mb_78 x)))))) (by decide +kernel) (by decide +kernel) (by decide +kernel) rfl ?_
  refine zw_bastoreS 4 115 f166_114 rfl (zg_ne rfl (zg_ne rfl (zg_ne rfl (zg_ne rfl (zg_ne rfl (mb_64 x)))))) (by decide +kernel) (by decide +kernel) (by decide +kernel) (by decide +kernel) ?_
  refine zw_iinc 5 [(1, .int 5), (0, .ref 52)] 118 f166_115 rfl rfl (by decide +kernel) (by decide +kernel) rfl ?_
  refine zw_goto 97 f166_118 (by decide +kernel) ?_
  refine zw_iload_n 98 f166_97 rfl rfl ?_
  refine zw_bipush 14 100 f166_98 rfl (by decide +kernel) ?_
  refine zw_ic_ge_f 103 121 f166_100 (by decide +kernel) rfl (by decide +kernel) ?_
  refine zw_aload_n 104 f166_103 rfl rfl ?_
  refine zw_getfield 107 f166_104 rfl g166_48_12 (zg_eq (zg_eq (zg_ne rfl (zg_eq (zg_eq (mb_52 x)))))) (zg_ne rfl (zg_ne rfl (zg_ne rfl (zg_ne rfl rfl)))) ?_
  refine zw_iload_n 108 f166_107 rfl rfl ?_
  refine zw_aload_n 109 f166_108 rfl rfl ?_
  refine zw_getfield 112 f166_109 rfl g166_99_12 (zg_eq (zg_eq (zg_ne rfl (zg_eq (zg_eq (mb_52 x)))))) (zg_ne rfl (zg_ne rfl (zg_ne rfl (zg_ne rfl rfl)))) ?_
  refine zw_iload_n 113 f166_112 rfl rfl ?_
  refine zw_baload 5 0 114 f166_113 rfl (zg_ne rfl (zg_ne rfl (zg_ne rfl (zg_ne rfl (zg_ne rfl (mb_78 x)))))) (by decide +kernel) (by decide +kernel) (by decide +kernel) rfl ?_
  refine zw_bastoreS 5 115 f166_114 rfl (zg_ne rfl (zg_ne rfl (zg_ne rfl (zg_ne rfl (zg_ne rfl (mb_64 x)))))) (by decide +kernel) (by decide +kernel) (by decide +kernel) (by decide +kernel) ?_
  refine zw_iinc 6 [(1, .int 6), (0, .ref 52)] 118 f166_115 rfl rfl (by decide +kernel) (by decide +kernel) rfl ?_
  refine zw_goto 97 f166_118 (by decide +kernel) ?_
  refine zw_iload_n 98 f166_97 rfl rfl ?_
  refine zw_bipush 14 100 f166_98 rfl (by decide +kernel) ?_
  refine zw_ic_ge_f 103 121 f166_100 (by decide +kernel) rfl (by decide +kernel) ?_
  refine zw_aload_n 104 f166_103 rfl rfl ?_
  refine zw_getfield 107 f166_104 rfl g166_48_12 (zg_eq (zg_eq (zg_ne rfl (zg_eq (zg_eq (mb_52 x)))))) (zg_ne rfl (zg_ne rfl (zg_ne rfl (zg_ne rfl rfl)))) ?_
  refine zw_iload_n 108 f166_107 rfl rfl ?_
  refine zw_aload_n 109 f166_108 rfl rfl ?_
  refine zw_getfield 112 f166_109 rfl g166_99_12 (zg_eq (zg_eq (zg_ne rfl (zg_eq (zg_eq (mb_52 x)))))) (zg_ne rfl (zg_ne rfl (zg_ne rfl (zg_ne rfl rfl)))) ?_
  refine zw_iload_n 113 f166_112 rfl rfl ?_
  refine zw_baload 6 0 114 f166_113 rfl (zg_ne rfl (zg_ne rfl (zg_ne rfl (zg_ne rfl (zg_ne rfl (mb_78 x)))))) (by decide +kernel) (by decide +kernel) (by decide +kernel) rfl ?_
  refine zw_bastoreS 6 115 f166_114 rfl (zg_ne rfl (zg_ne rfl (zg_ne rfl (zg_ne rfl (zg_ne rfl (mb_64 x)))))) (by decide +kernel) (by decide +kernel) (by decide +kernel) (by decide +kernel) ?_
  refine zw_iinc 7 [(1, .int 7), (0, .ref 52)] 118 f166_115 rfl rfl (by decide +kernel) (by decide +kernel) rfl ?_
  refine zw_goto 97 f166_118 (by decide +kernel) ?_
  refine zw_iload_n 98 f166_97 rfl rfl ?_
  refine zw_bipush 14 100 f166_98 rfl (by decide +kernel) ?_
  refine zw_ic_ge_f 103 121 f166_100 (by decide +kernel) rfl (by decide +kernel) ?_
  refine zw_aload_n 104 f166_103 rfl rfl ?_
  refine zw_getfield 107 f166_104 rfl g166_48_12 (zg_eq (zg_eq (zg_ne rfl (zg_eq (zg_eq (mb_52 x)))))) (zg_ne rfl (zg_ne rfl (zg_ne rfl (zg_ne rfl rfl)))) ?_
  refine zw_iload_n 108 f166_107 rfl rfl ?_
  refine zw_aload_n 109 f166_108 rfl rfl ?_
  refine zw_getfield 112 f166_109 rfl g166_99_12 (zg_eq (zg_eq (zg_ne rfl (zg_eq (zg_eq (mb_52 x)))))) (zg_ne rfl (zg_ne rfl (zg_ne rfl (zg_ne rfl rfl)))) ?_
  refine zw_iload_n 113 f166_112 rfl rfl ?_
  refine zw_baload 7 0 114 f166_113 rfl (zg_ne rfl (zg_ne rfl (zg_ne rfl (zg_ne rfl (zg_ne rfl (mb_78 x)))))) (by decide +kernel) (by decide +kernel) (by decide +kernel) rfl ?_
  refine zw_bastoreS 7 115 f166_114 rfl (zg_ne rfl (zg_ne rfl (zg_ne rfl (zg_ne rfl (zg_ne rfl (mb_64 x)))))) (by decide +kernel) (by decide +kernel) (by decide +kernel) (by decide +kernel) ?_
  refine zw_iinc 8 [(1, .int 8), (0, .ref 52)] 118 f166_115 rfl rfl (by decide +kernel) (by decide +kernel) rfl ?_
  refine zw_goto 97 f166_118 (by decide +kernel) ?_
  refine zw_iload_n 98 f166_97 rfl rfl ?_
  refine zw_bipush 14 100 f166_98 rfl (by decide +kernel) ?_
  refine zw_ic_ge_f 103 121 f166_100 (by decide +kernel) rfl (by decide +kernel) ?_
  refine zw_aload_n 104 f166_103 rfl rfl ?_
  refine zw_getfield 107 f166_104 rfl g166_48_12 (zg_eq (zg_eq (zg_ne rfl (zg_eq (zg_eq (mb_52 x)))))) (zg_ne rfl (zg_ne rfl (zg_ne rfl (zg_ne rfl rfl)))) ?_
  refine zw_iload_n 108 f166_107 rfl rfl ?_
  refine zw_aload_n 109 f166_108 rfl rfl ?_
  refine zw_getfield 112 f166_109 rfl g166_99_12 (zg_eq (zg_eq (zg_ne rfl (zg_eq (zg_eq (mb_52 x)))))) (zg_ne rfl (zg_ne rfl (zg_ne rfl (zg_ne rfl rfl)))) ?_
  refine zw_iload_n 113 f166_112 rfl rfl ?_
  refine zw_baload 8 0 114 f166_113 rfl (zg_ne rfl (zg_ne rfl (zg_ne rfl (zg_ne rfl (zg_ne rfl (mb_78 x)))))) (by decide +kernel) (by decide +kernel) (by decide +kernel) rfl ?_
  refine zw_bastoreS 8 115 f166_114 rfl (zg_ne rfl (zg_ne rfl (zg_ne rfl (zg_ne rfl (zg_ne rfl (mb_64 x)))))) (by decide +kernel) (by decide +kernel) (by decide +kernel) (by decide +kernel) ?_
  refine zw_iinc 9 [(1, .int 9), (0, .ref 52)] 118 f166_115 rfl rfl (by decide +kernel) (by decide +kernel) rfl ?_
  refine zw_goto 97 f166_118 (by decide +kernel) ?_
  refine zw_iload_n 98 f166_97 rfl rfl ?_
  refine zw_bipush 14 100 f166_98 rfl (by decide +kernel) ?_
  refine zw_ic_ge_f 103 121 f166_100 (by decide +kernel) rfl (by decide +kernel) ?_
  refine zw_aload_n 104 f166_103 rfl rfl ?_
  refine zw_getfield 107 f166_104 rfl g166_48_12 (zg_eq (zg_eq (zg_ne rfl (zg_eq (zg_eq (mb_52 x)))))) (zg_ne rfl (zg_ne rfl (zg_ne rfl (zg_ne rfl rfl)))) ?_
  refine zw_iload_n 108 f166_107 rfl rfl ?_
  refine zw_aload_n 109 f166_108 rfl rfl ?_
  refine zw_getfield 112 f166_109 rfl g166_99_12 (zg_eq (zg_eq (zg_ne rfl (zg_eq (zg_eq (mb_52 x)))))) (zg_ne rfl (zg_ne rfl (zg_ne rfl (zg_ne rfl rfl)))) ?_
  refine zw_iload_n 113 f166_112 rfl rfl ?_
  refine zw_baload 9 0 114 f166_113 rfl (zg_ne rfl (zg_ne rfl (zg_ne rfl (zg_ne rfl (zg_ne rfl (mb_78 x)))))) (by decide +kernel) (by decide +kernel) (by decide +kernel) rfl ?_
  refine zw_bastoreS 9 115 f166_114 rfl (zg_ne rfl (zg_ne rfl (zg_ne rfl (zg_ne rfl (zg_ne rfl (mb_64 x)))))) (by decide +kernel) (by decide +kernel) (by decide +kernel) (by decide +kernel) ?_
  refine zw_iinc 10 [(1, .int 10), (0, .ref 52)] 118 f166_115 rfl rfl (by decide +kernel) (by decide +kernel) rfl ?_
  refine zw_goto 97 f166_118 (by decide +kernel) ?_
  refine zw_iload_n 98 f166_97 rfl rfl ?_
  refine zw_bipush 14 100 f166_98 rfl (by decide +kernel) ?_
  refine zw_ic_ge_f 103 121 f166_100 (by decide +kernel) rfl (by decide +kernel) ?_
  refine zw_aload_n 104 f166_103 rfl rfl ?_
  refine zw_getfield 107 f166_104 rfl g166_48_12 (zg_eq (zg_eq (zg_ne rfl (zg_eq (zg_eq (mb_52 x)))))) (zg_ne rfl (zg_ne rfl (zg_ne rfl (zg_ne rfl rfl)))) ?_
  refine zw_iload_n 108 f166_107 rfl rfl ?_
  refine zw_aload_n 109 f166_108 rfl rfl ?_
  refine zw_getfield 112 f166_109 rfl g166_99_12 (zg_eq (zg_eq (zg_ne rfl (zg_eq (zg_eq (mb_52 x)))))) (zg_ne rfl (zg_ne rfl (zg_ne rfl (zg_ne rfl rfl)))) ?_
  refine zw_iload_n 113 f166_112 rfl rfl ?_
  refine zw_baload 10 0 114 f166_113 rfl (zg_ne rfl (zg_ne rfl (zg_ne rfl (zg_ne rfl (zg_ne rfl (mb_78 x)))))) (by decide +kernel) (by decide +kernel) (by decide +kernel) rfl ?_
  refine zw_bastoreS 10 115 f166_114 rfl (zg_ne rfl (zg_ne rfl (zg_ne rfl (zg_ne rfl (zg_ne rfl (mb_64 x)))))) (by decide +kernel) (by decide +kernel) (by decide +kernel) (by decide +kernel) ?_
  refine zw_iinc 11 [(1, .int 11), (0, .ref 52)] 118 f166_115 rfl rfl (by decide +kernel) (by decide +kernel) rfl ?_
  refine zw_goto 97 f166_118 (by decide +kernel) ?_
  refine zw_iload_n 98 f166_97 rfl rfl ?_
  refine zw_bipush 14 100 f166_98 rfl (by decide +kernel) ?_
  refine zw_ic_ge_f 103 121 f166_100 (by decide +kernel) rfl (by decide +kernel) ?_
  refine zw_aload_n 104 f166_103 rfl rfl ?_
  refine zw_getfield 107 f166_104 rfl g166_48_12 (zg_eq (zg_eq (zg_ne rfl (zg_eq (zg_eq (mb_52 x)))))) (zg_ne rfl (zg_ne rfl (zg_ne rfl (zg_ne rfl rfl)))) ?_
  refine zw_iload_n 108 f166_107 rfl rfl ?_
  refine zw_aload_n 109 f166_108 rfl rfl ?_
  refine zw_getfield 112 f166_109 rfl g166_99_12 (zg_eq (zg_eq (zg_ne rfl (zg_eq (zg_eq (mb_52 x)))))) (zg_ne rfl (zg_ne rfl (zg_ne rfl (zg_ne rfl rfl)))) ?_
  refine zw_iload_n 113 f166_112 rfl rfl ?_
  refine zw_baload 11 0 114 f166_113 rfl (zg_ne rfl (zg_ne rfl (zg_ne rfl (zg_ne rfl (zg_ne rfl (mb_78 x)))))) (by decide +kernel) (by decide +kernel) (by decide +kernel) rfl ?_
  refine zw_bastoreS 11 115 f166_114 rfl (zg_ne rfl (zg_ne rfl (zg_ne rfl (zg_ne rfl (zg_ne rfl (mb_64 x)))))) (by decide +kernel) (by decide +kernel) (by decide +kernel) (by decide +kernel) ?_
  refine zw_iinc 12 [(1, .int 12), (0, .ref 52)] 118 f166_115 rfl rfl (by decide +kernel) (by decide +kernel) rfl ?_
  refine zw_goto 97 f166_118 (by decide +kernel) ?_
  refine zw_iload_n 98 f166_97 rfl rfl ?_
  refine zw_bipush 14 100 f166_98 rfl (by decide +kernel) ?_
  refine zw_ic_ge_f 103 121 f166_100 (by decide +kernel) rfl (by decide +kernel) ?_
  refine zw_aload_n 104 f166_103 rfl rfl ?_
  refine zw_getfield 107 f166_104 rfl g166_48_12 (zg_eq (zg_eq (zg_ne rfl (zg_eq (zg_eq (mb_52 x)))))) (zg_ne rfl (zg_ne rfl (zg_ne rfl (zg_ne rfl rfl)))) ?_
  refine zw_iload_n 108 f166_107 rfl rfl ?_
  refine zw_aload_n 109 f166_108 rfl rfl ?_
  refine zw_getfield 112 f166_109 rfl g166_99_12 (zg_eq (zg_eq (zg_ne rfl (zg_eq (zg_eq (mb_52 x)))))) (zg_ne rfl (zg_ne rfl (zg_ne rfl (zg_ne rfl rfl)))) ?_
  refine zw_iload_n 113 f166_112 rfl rfl ?_
  refine zw_baload 12 0 114 f166_113 rfl (zg_ne rfl (zg_ne rfl (zg_ne rfl (zg_ne rfl (zg_ne rfl (mb_78 x)))))) (by decide +kernel) (by decide +kernel) (by decide +kernel) rfl ?_
  refine zw_bastoreS 12 115 f166_114 rfl (zg_ne rfl (zg_ne rfl (zg_ne rfl (zg_ne rfl (zg_ne rfl (mb_64 x)))))) (by decide +kernel) (by decide +kernel) (by decide +kernel) (by decide +kernel) ?_
  refine zw_iinc 13 [(1, .int 13), (0, .ref 52)] 118 f166_115 rfl rfl (by decide +kernel) (by decide +kernel) rfl ?_
  refine zw_goto 97 f166_118 (by decide +kernel) ?_
  refine zw_iload_n 98 f166_97 rfl rfl ?_
  refine zw_bipush 14 100 f166_98 rfl (by decide +kernel) ?_
  refine zw_ic_ge_f 103 121 f166_100 (by decide +kernel) rfl (by decide +kernel) ?_
  refine zw_aload_n 104 f166_103 rfl rfl ?_
  refine zw_getfield 107 f166_104 rfl g166_48_12 (zg_eq (zg_eq (zg_ne rfl (zg_eq (zg_eq (mb_52 x)))))) (zg_ne rfl (zg_ne rfl (zg_ne rfl (zg_ne rfl rfl)))) ?_
  refine zw_iload_n 108 f166_107 rfl rfl ?_
  refine zw_aload_n 109 f166_108 rfl rfl ?_
  refine zw_getfield 112 f166_109 rfl g166_99_12 (zg_eq (zg_eq (zg_ne rfl (zg_eq (zg_eq (mb_52 x)))))) (zg_ne rfl (zg_ne rfl (zg_ne rfl (zg_ne rfl rfl)))) ?_
  refine zw_iload_n 113 f166_112 rfl rfl ?_
  refine zw_baload 13 0 114 f166_113 rfl (zg_ne rfl (zg_ne rfl (zg_ne rfl (zg_ne rfl (zg_ne rfl (mb_78 x)))))) (by decide +kernel) (by decide +kernel) (by decide +kernel) rfl ?_
  refine zw_bastoreS 13 115 f166_114 rfl (zg_ne rfl (zg_ne rfl (zg_ne rfl (zg_ne rfl (zg_ne rfl (mb_64 x)))))) (by decide +kernel) (by decide +kernel) (by decide +kernel) (by decide +kernel) ?_
  refine zw_iinc 14 [(1, .int 14), (0, .ref 52)] 118 f166_115 rfl rfl (by decide +kernel) (by decide +kernel) rfl ?_
  refine zw_goto 97 f166_118 (by decide +kernel) ?_
  refine zw_iload_n 98 f166_97 rfl rfl ?_
  refine zw_bipush 14 100 f166_98 rfl (by decide +kernel) ?_
  refine zw_ic_ge_t 121 f166_100 (by decide +kernel) (by decide +kernel) ?_
  refine zw_vreturn f166_121 r166 u166 ⟨rfl, ?_⟩
  refine zw_iload_n 25 f170_24 rfl rfl ?_
  refine zw_if_ne_f 28 30 f170_25 (by decide +kernel) rfl (by decide +kernel) ?_
  refine zw_iload_n 29 f170_28 rfl rfl ?_
  refine zw_ireturn f170_29 r170 u170 ?_
  exact rfl
set_option maxRecDepth 100000 in
set_option maxHeartbeats 0 in
theorem m_round_r (ro : UInt32 → Nat × (Nat → Int32)) (x : Nat → va_E) (a : Int32) (h1 : ¬ a = 0) : zWp ro 170 0 [(0, .ref 52), (1, .int a)] [] (hMx x) 0 0 (fun r _ => r = some (.int (-1))) := by
  refine zw_iload_n 1 f170_0 rfl rfl ?_
  refine zw_iconst 0 2 f170_1 rfl (by decide +kernel) ?_
  refine zw_iconst 4 3 f170_2 rfl (by decide +kernel) ?_
  refine zw_static_i 6 0 0 [.int a, .int 0, .int 4] [] [(0, .int a), (1, .int 0), (2, .int 4)] f170_3 rfl k170_117_99 rfl (by decide +kernel) (Nat.le_of_ble_eq_true rfl) (Nat.le_of_ble_eq_true rfl) rfl rfl (by decide +kernel) (by decide +kernel) rfl (Nat.le_of_ble_eq_true rfl) rfl ?_
  refine zw_iload_n 1 f120_0 rfl rfl ?_
  refine zw_iload_n 2 f120_1 rfl rfl ?_
  refine zw_ic_lt 5 14 f120_2 (by decide +kernel) rfl (fun hc1 => ?_) (fun hc1 => ?_)
  · refine zw_iconst 0 15 f120_14 rfl (by decide +kernel) ?_
    refine zw_zreturn f120_15 r120 u120 (by decide +kernel) ⟨_, rfl, ?_⟩
    refine zw_if_ne_f 9 11 f170_6 (by decide +kernel) rfl (by decide +kernel) ?_
    refine zw_iconst (-1) 10 f170_9 rfl (by decide +kernel) ?_
    refine zw_ireturn f170_10 r170 u170 ?_
    exact rfl
  · refine zw_iload_n 6 f120_5 rfl rfl ?_
    refine zw_iload_n 7 f120_6 rfl rfl ?_
    refine zw_ic_gt 10 14 f120_7 (by decide +kernel) rfl (fun hc2 => ?_) (fun hc2 => ?_)
    · refine zw_iconst 0 15 f120_14 rfl (by decide +kernel) ?_
      refine zw_zreturn f120_15 r120 u120 (by decide +kernel) ⟨_, rfl, ?_⟩
      refine zw_if_ne_f 9 11 f170_6 (by decide +kernel) rfl (by decide +kernel) ?_
      refine zw_iconst (-1) 10 f170_9 rfl (by decide +kernel) ?_
      refine zw_ireturn f170_10 r170 u170 ?_
      exact rfl
    · refine zw_iconst 1 11 f120_10 rfl (by decide +kernel) ?_
      refine zw_goto 15 f120_11 (by decide +kernel) ?_
      refine zw_zreturn f120_15 r120 u120 (by decide +kernel) ⟨_, rfl, ?_⟩
      refine zw_if_ne_t 11 f170_6 (by decide +kernel) (by decide +kernel) ?_
      refine zw_aload_n 12 f170_11 rfl rfl ?_
      refine zw_virtual_v 15 0 0 [.ref 52] [(0, .ref 52)] f170_12 rfl n170_278 k170_278_12 rfl (mb_52 x) (by decide +kernel) (Nat.le_of_ble_eq_true rfl) rfl rfl (by decide +kernel) (by decide +kernel) rfl (Nat.le_of_ble_eq_true rfl) rfl ?_
      refine zw_aload_n 1 f165_0 rfl rfl ?_
      refine zw_iconst 0 2 f165_1 rfl (by decide +kernel) ?_
      refine zw_putfield 5 f165_2 rfl g165_58_12 (mb_52 x) rfl (zg_lt rfl) (by decide +kernel) ?_
      refine zw_aload_n 6 f165_5 rfl rfl ?_
      refine zw_aload_n 7 f165_6 rfl rfl ?_
      refine zw_getfield 10 f165_7 rfl g165_40_12 (zg_eq (mb_52 x)) (zg_ne rfl rfl) ?_
      refine zw_putfield 13 f165_10 rfl g165_249_12 (zg_eq (mb_52 x)) rfl (zg_lt (zg_ne rfl rfl)) (by decide +kernel) ?_
      refine zw_aload_n 14 f165_13 rfl rfl ?_
      refine zw_aload_n 15 f165_14 rfl rfl ?_
      refine zw_getfield 18 f165_15 rfl g165_172_12 (zg_eq (zg_eq (mb_52 x))) (zg_ne rfl (zg_ne rfl rfl)) ?_
      refine zw_putfieldS 21 f165_18 rfl g165_252_12 (zg_eq (zg_eq (mb_52 x))) rfl (zg_ne rfl (zg_ne rfl rfl)) (by decide +kernel) ?_
      refine zw_aload_n 22 f165_21 rfl rfl ?_
      refine zw_aload_n 23 f165_22 rfl rfl ?_
      refine zw_getfield 26 f165_23 rfl g165_175_12 (zg_eq (zg_eq (mb_52 x))) (zg_ne rfl (zg_ne rfl rfl)) ?_
      refine zw_putfieldS 29 f165_26 rfl g165_255_12 (zg_eq (zg_eq (mb_52 x))) rfl (zg_ne rfl (zg_ne rfl rfl)) (by decide +kernel) ?_
      refine zw_aload_n 30 f165_29 rfl rfl ?_
      refine zw_aload_n 31 f165_30 rfl rfl ?_
      refine zw_getfield 34 f165_31 rfl g165_178_12 (zg_eq (zg_eq (mb_52 x))) (zg_ne rfl (zg_ne rfl rfl)) ?_
      refine zw_putfieldS 37 f165_34 rfl g165_258_12 (zg_eq (zg_eq (mb_52 x))) rfl (zg_ne rfl (zg_ne rfl rfl)) (by decide +kernel) ?_
      refine zw_aload_n 38 f165_37 rfl rfl ?_
      refine zw_aload_n 39 f165_38 rfl rfl ?_
      refine zw_getfield 42 f165_39 rfl g165_183_12 (zg_eq (zg_eq (mb_52 x))) (zg_ne rfl (zg_ne rfl rfl)) ?_
      refine zw_putfieldS 45 f165_42 rfl g165_261_12 (zg_eq (zg_eq (mb_52 x))) rfl (zg_ne rfl (zg_ne rfl rfl)) (by decide +kernel) ?_
      refine zw_iconst 0 46 f165_45 rfl (by decide +kernel) ?_
      refine zw_istore_n [(1, .int 0), (0, .ref 52)] 47 f165_46 rfl (by decide +kernel) rfl ?_
      refine zw_iload_n 48 f165_47 rfl rfl ?_
      refine zw_bipush 8 50 f165_48 rfl (by decide +kernel) ?_
      refine zw_ic_ge_f 53 95 f165_50 (by decide +kernel) rfl (by decide +kernel) ?_
      refine zw_aload_n 54 f165_53 rfl rfl ?_
      refine zw_getfield 57 f165_54 rfl g165_96_12 (zg_eq (zg_eq (mb_52 x))) (zg_ne rfl (zg_ne rfl rfl)) ?_
      refine zw_iload_n 58 f165_57 rfl rfl ?_
      refine zw_aload_n 59 f165_58 rfl rfl ?_
      refine zw_getfield 62 f165_59 rfl g165_44_12 (zg_eq (zg_eq (mb_52 x))) (zg_ne rfl (zg_ne rfl rfl)) ?_
      refine zw_iload_n 63 f165_62 rfl rfl ?_
      refine zw_laload 0 0 64 f165_63 rfl (zg_ne rfl (zg_ne rfl (mb_63 x))) (by decide +kernel) (by decide +kernel) (by decide +kernel) rfl ?_
      refine zw_lastoreS 0 65 f165_64 rfl (zg_ne rfl (zg_ne rfl (mb_77 x))) (by decide +kernel) (by decide +kernel) (by decide +kernel) rfl ?_
      refine zw_aload_n 66 f165_65 rfl rfl ?_
      refine zw_getfield 69 f165_66 rfl g165_102_12 (zg_eq (zg_eq (mb_52 x))) (zg_ne rfl (zg_ne rfl rfl)) ?_
      refine zw_iload_n 70 f165_69 rfl rfl ?_
      refine zw_aload_n 71 f165_70 rfl rfl ?_
      refine zw_getfield 74 f165_71 rfl g165_52_12 (zg_eq (zg_eq (mb_52 x))) (zg_ne rfl (zg_ne rfl rfl)) ?_
      refine zw_iload_n 75 f165_74 rfl rfl ?_
      refine zw_baload 0 0 76 f165_75 rfl (zg_ne rfl (zg_ne rfl (mb_65 x))) (by decide +kernel) (by decide +kernel) (by decide +kernel) rfl ?_
      refine zw_bastoreS 0 77 f165_76 rfl (zg_ne rfl (zg_ne rfl (mb_79 x))) (by decide +kernel) (by decide +kernel) (by decide +kernel) (by decide +kernel) ?_
      refine zw_aload_n 78 f165_77 rfl rfl ?_
      refine zw_getfield 81 f165_78 rfl g165_105_12 (zg_eq (zg_eq (mb_52 x))) (zg_ne rfl (zg_ne rfl rfl)) ?_
      refine zw_iload_n 82 f165_81 rfl rfl ?_
      refine zw_aload_n 83 f165_82 rfl rfl ?_
      refine zw_getfield 86 f165_83 rfl g165_55_12 (zg_eq (zg_eq (mb_52 x))) (zg_ne rfl (zg_ne rfl rfl)) ?_
      refine zw_iload_n 87 f165_86 rfl rfl ?_
      refine zw_iaload 0 0 88 f165_87 rfl (zg_ne rfl (zg_ne rfl (mb_66 x))) (by decide +kernel) (by decide +kernel) (by decide +kernel) rfl ?_
      refine zw_iastoreS 0 89 f165_88 rfl (zg_ne rfl (zg_ne rfl (mb_80 x))) (by decide +kernel) (by decide +kernel) (by decide +kernel) rfl ?_
      refine zw_iinc 1 [(1, .int 1), (0, .ref 52)] 92 f165_89 rfl rfl (by decide +kernel) (by decide +kernel) rfl ?_
      refine zw_goto 47 f165_92 (by decide +kernel) ?_
      refine zw_iload_n 48 f165_47 rfl rfl ?_
      refine zw_bipush 8 50 f165_48 rfl (by decide +kernel) ?_
      refine zw_ic_ge_f 53 95 f165_50 (by decide +kernel) rfl (by decide +kernel) ?_
      refine zw_aload_n 54 f165_53 rfl rfl ?_
      refine zw_getfield 57 f165_54 rfl g165_96_12 (zg_eq (zg_eq (mb_52 x))) (zg_ne rfl (zg_ne rfl rfl)) ?_
      refine zw_iload_n 58 f165_57 rfl rfl ?_
      refine zw_aload_n 59 f165_58 rfl rfl ?_
      refine zw_getfield 62 f165_59 rfl g165_44_12 (zg_eq (zg_eq (mb_52 x))) (zg_ne rfl (zg_ne rfl rfl)) ?_
      refine zw_iload_n 63 f165_62 rfl rfl ?_
      refine zw_laload 1 0 64 f165_63 rfl (zg_ne rfl (zg_ne rfl (mb_63 x))) (by decide +kernel) (by decide +kernel) (by decide +kernel) rfl ?_
      refine zw_lastoreS 1 65 f165_64 rfl (zg_ne rfl (zg_ne rfl (mb_77 x))) (by decide +kernel) (by decide +kernel) (by decide +kernel) rfl ?_
      refine zw_aload_n 66 f165_65 rfl rfl ?_
      refine zw_getfield 69 f165_66 rfl g165_102_12 (zg_eq (zg_eq (mb_52 x))) (zg_ne rfl (zg_ne rfl rfl)) ?_
      refine zw_iload_n 70 f165_69 rfl rfl ?_
      refine zw_aload_n 71 f165_70 rfl rfl ?_
      refine zw_getfield 74 f165_71 rfl g165_52_12 (zg_eq (zg_eq (mb_52 x))) (zg_ne rfl (zg_ne rfl rfl)) ?_
      refine zw_iload_n 75 f165_74 rfl rfl ?_
      refine zw_baload 1 0 76 f165_75 rfl (zg_ne rfl (zg_ne rfl (mb_65 x))) (by decide +kernel) (by decide +kernel) (by decide +kernel) rfl ?_
      refine zw_bastoreS 1 77 f165_76 rfl (zg_ne rfl (zg_ne rfl (mb_79 x))) (by decide +kernel) (by decide +kernel) (by decide +kernel) (by decide +kernel) ?_
      refine zw_aload_n 78 f165_77 rfl rfl ?_
      refine zw_getfield 81 f165_78 rfl g165_105_12 (zg_eq (zg_eq (mb_52 x))) (zg_ne rfl (zg_ne rfl rfl)) ?_
      refine zw_iload_n 82 f165_81 rfl rfl ?_
      refine zw_aload_n 83 f165_82 rfl rfl ?_
      refine zw_getfield 86 f165_83 rfl g165_55_12 (zg_eq (zg_eq (mb_52 x))) (zg_ne rfl (zg_ne rfl rfl)) ?_
      refine zw_iload_n 87 f165_86 rfl rfl ?_
      refine zw_iaload 1 0 88 f165_87 rfl (zg_ne rfl (zg_ne rfl (mb_66 x))) (by decide +kernel) (by decide +kernel) (by decide +kernel) rfl ?_
      refine zw_iastoreS 1 89 f165_88 rfl (zg_ne rfl (zg_ne rfl (mb_80 x))) (by decide +kernel) (by decide +kernel) (by decide +kernel) rfl ?_
      refine zw_iinc 2 [(1, .int 2), (0, .ref 52)] 92 f165_89 rfl rfl (by decide +kernel) (by decide +kernel) rfl ?_
      refine zw_goto 47 f165_92 (by decide +kernel) ?_
      refine zw_iload_n 48 f165_47 rfl rfl ?_
      refine zw_bipush 8 50 f165_48 rfl (by decide +kernel) ?_
      refine zw_ic_ge_f 53 95 f165_50 (by decide +kernel) rfl (by decide +kernel) ?_
      refine zw_aload_n 54 f165_53 rfl rfl ?_
      refine zw_getfield 57 f165_54 rfl g165_96_12 (zg_eq (zg_eq (mb_52 x))) (zg_ne rfl (zg_ne rfl rfl)) ?_
      refine zw_iload_n 58 f165_57 rfl rfl ?_
      refine zw_aload_n 59 f165_58 rfl rfl ?_
      refine zw_getfield 62 f165_59 rfl g165_44_12 (zg_eq (zg_eq (mb_52 x))) (zg_ne rfl (zg_ne rfl rfl)) ?_
      refine zw_iload_n 63 f165_62 rfl rfl ?_
      refine zw_laload 2 0 64 f165_63 rfl (zg_ne rfl (zg_ne rfl (mb_63 x))) (by decide +kernel) (by decide +kernel) (by decide +kernel) rfl ?_
      refine zw_lastoreS 2 65 f165_64 rfl (zg_ne rfl (zg_ne rfl (mb_77 x))) (by decide +kernel) (by decide +kernel) (by decide +kernel) rfl ?_
      refine zw_aload_n 66 f165_65 rfl rfl ?_
      refine zw_getfield 69 f165_66 rfl g165_102_12 (zg_eq (zg_eq (mb_52 x))) (zg_ne rfl (zg_ne rfl rfl)) ?_
      refine zw_iload_n 70 f165_69 rfl rfl ?_
      refine zw_aload_n 71 f165_70 rfl rfl ?_
      refine zw_getfield 74 f165_71 rfl g165_52_12 (zg_eq (zg_eq (mb_52 x))) (zg_ne rfl (zg_ne rfl rfl)) ?_
      refine zw_iload_n 75 f165_74 rfl rfl ?_
      refine zw_baload 2 0 76 f165_75 rfl (zg_ne rfl (zg_ne rfl (mb_65 x))) (by decide +kernel) (by decide +kernel) (by decide +kernel) rfl ?_
      refine zw_bastoreS 2 77 f165_76 rfl (zg_ne rfl (zg_ne rfl (mb_79 x))) (by decide +kernel) (by decide +kernel) (by decide +kernel) (by decide +kernel) ?_
      refine zw_aload_n 78 f165_77 rfl rfl ?_
      refine zw_getfield 81 f165_78 rfl g165_105_12 (zg_eq (zg_eq (mb_52 x))) (zg_ne rfl (zg_ne rfl rfl)) ?_
      refine zw_iload_n 82 f165_81 rfl rfl ?_
      refine zw_aload_n 83 f165_82 rfl rfl ?_
      refine zw_getfield 86 f165_83 rfl g165_55_12 (zg_eq (zg_eq (mb_52 x))) (zg_ne rfl (zg_ne rfl rfl)) ?_
      refine zw_iload_n 87 f165_86 rfl rfl ?_
      refine zw_iaload 2 0 88 f165_87 rfl (zg_ne rfl (zg_ne rfl (mb_66 x))) (by decide +kernel) (by decide +kernel) (by decide +kernel) rfl ?_
      refine zw_iastoreS 2 89 f165_88 rfl (zg_ne rfl (zg_ne rfl (mb_80 x))) (by decide +kernel) (by decide +kernel) (by decide +kernel) rfl ?_
      refine zw_iinc 3 [(1, .int 3), (0, .ref 52)] 92 f165_89 rfl rfl (by decide +kernel) (by decide +kernel) rfl ?_
      refine zw_goto 47 f165_92 (by decide +kernel) ?_
      refine zw_iload_n 48 f165_47 rfl rfl ?_
      refine zw_bipush 8 50 f165_48 rfl (by decide +kernel) ?_
      refine zw_ic_ge_f 53 95 f165_50 (by decide +kernel) rfl (by decide +kernel) ?_
      refine zw_aload_n 54 f165_53 rfl rfl ?_
      refine zw_getfield 57 f165_54 rfl g165_96_12 (zg_eq (zg_eq (mb_52 x))) (zg_ne rfl (zg_ne rfl rfl)) ?_
      refine zw_iload_n 58 f165_57 rfl rfl ?_
      refine zw_aload_n 59 f165_58 rfl rfl ?_
      refine zw_getfield 62 f165_59 rfl g165_44_12 (zg_eq (zg_eq (mb_52 x))) (zg_ne rfl (zg_ne rfl rfl)) ?_
      refine zw_iload_n 63 f165_62 rfl rfl ?_
      refine zw_laload 3 0 64 f165_63 rfl (zg_ne rfl (zg_ne rfl (mb_63 x))) (by decide +kernel) (by decide +kernel) (by decide +kernel) rfl ?_
      refine zw_lastoreS 3 65 f165_64 rfl (zg_ne rfl (zg_ne rfl (mb_77 x))) (by decide +kernel) (by decide +kernel) (by decide +kernel) rfl ?_
      refine zw_aload_n 66 f165_65 rfl rfl ?_
      refine zw_getfield 69 f165_66 rfl g165_102_12 (zg_eq (zg_eq (mb_52 x))) (zg_ne rfl (zg_ne rfl rfl)) ?_
      refine zw_iload_n 70 f165_69 rfl rfl ?_
      refine zw_aload_n 71 f165_70 rfl rfl ?_
      refine zw_getfield 74 f165_71 rfl g165_52_12 (zg_eq (zg_eq (mb_52 x))) (zg_ne rfl (zg_ne rfl rfl)) ?_
      refine zw_iload_n 75 f165_74 rfl rfl ?_
      refine zw_baload 3 0 76 f165_75 rfl (zg_ne rfl (zg_ne rfl (mb_65 x))) (by decide +kernel) (by decide +kernel) (by decide +kernel) rfl ?_
      refine zw_bastoreS 3 77 f165_76 rfl (zg_ne rfl (zg_ne rfl (mb_79 x))) (by decide +kernel) (by decide +kernel) (by decide +kernel) (by decide +kernel) ?_
      refine zw_aload_n 78 f165_77 rfl rfl ?_
      refine zw_getfield 81 f165_78 rfl g165_105_12 (zg_eq (zg_eq (mb_52 x))) (zg_ne rfl (zg_ne rfl rfl)) ?_
      refine zw_iload_n 82 f165_81 rfl rfl ?_
      refine zw_aload_n 83 f165_82 rfl rfl ?_
      refine zw_getfield 86 f165_83 rfl g165_55_12 (zg_eq (zg_eq (mb_52 x))) (zg_ne rfl (zg_ne rfl rfl)) ?_
      refine zw_iload_n 87 f165_86 rfl rfl ?_
      refine zw_iaload 3 0 88 f165_87 rfl (zg_ne rfl (zg_ne rfl (mb_66 x))) (by decide +kernel) (by decide +kernel) (by decide +kernel) rfl ?_
      refine zw_iastoreS 3 89 f165_88 rfl (zg_ne rfl (zg_ne rfl (mb_80 x))) (by decide +kernel) (by decide +kernel) (by decide +kernel) rfl ?_
      refine zw_iinc 4 [(1, .int 4), (0, .ref 52)] 92 f165_89 rfl rfl (by decide +kernel) (by decide +kernel) rfl ?_
      refine zw_goto 47 f165_92 (by decide +kernel) ?_
      refine zw_iload_n 48 f165_47 rfl rfl ?_
      refine zw_bipush 8 50 f165_48 rfl (by decide +kernel) ?_
      refine zw_ic_ge_f 53 95 f165_50 (by decide +kernel) rfl (by decide +kernel) ?_
      refine zw_aload_n 54 f165_53 rfl rfl ?_
      refine zw_getfield 57 f165_54 rfl g165_96_12 (zg_eq (zg_eq (mb_52 x))) (zg_ne rfl (zg_ne rfl rfl)) ?_
      refine zw_iload_n 58 f165_57 rfl rfl ?_
      refine zw_aload_n 59 f165_58 rfl rfl ?_
      refine zw_getfield 62 f165_59 rfl g165_44_12 (zg_eq (zg_eq (mb_52 x))) (zg_ne rfl (zg_ne rfl rfl)) ?_
      refine zw_iload_n 63 f165_62 rfl rfl ?_
      refine zw_laload 4 0 64 f165_63 rfl (zg_ne rfl (zg_ne rfl (mb_63 x))) (by decide +kernel) (by decide +kernel) (by decide +kernel) rfl ?_
      refine zw_lastoreS 4 65 f165_64 rfl (zg_ne rfl (zg_ne rfl (mb_77 x))) (by decide +kernel) (by decide +kernel) (by decide +kernel) rfl ?_
      refine zw_aload_n 66 f165_65 rfl rfl ?_
      refine zw_getfield 69 f165_66 rfl g165_102_12 (zg_eq (zg_eq (mb_52 x))) (zg_ne rfl (zg_ne rfl rfl)) ?_
      refine zw_iload_n 70 f165_69 rfl rfl ?_
      refine zw_aload_n 71 f165_70 rfl rfl ?_
      refine zw_getfield 74 f165_71 rfl g165_52_12 (zg_eq (zg_eq (mb_52 x))) (zg_ne rfl (zg_ne rfl rfl)) ?_
      refine zw_iload_n 75 f165_74 rfl rfl ?_
      refine zw_baload 4 0 76 f165_75 rfl (zg_ne rfl (zg_ne rfl (mb_65 x))) (by decide +kernel) (by decide +kernel) (by decide +kernel) rfl ?_
      refine zw_bastoreS 4 77 f165_76 rfl (zg_ne rfl (zg_ne rfl (mb_79 x))) (by decide +kernel) (by decide +kernel) (by decide +kernel) (by decide +kernel) ?_
      refine zw_aload_n 78 f165_77 rfl rfl ?_
      refine zw_getfield 81 f165_78 rfl g165_105_12 (zg_eq (zg_eq (mb_52 x))) (zg_ne rfl (zg_ne rfl rfl)) ?_
      refine zw_iload_n 82 f165_81 rfl rfl ?_
      refine zw_aload_n 83 f165_82 rfl rfl ?_
      refine zw_getfield 86 f165_83 rfl g165_55_12 (zg_eq (zg_eq (mb_52 x))) (zg_ne rfl (zg_ne rfl rfl)) ?_
      refine zw_iload_n 87 f165_86 rfl rfl ?_
      refine zw_iaload 4 0 88 f165_87 rfl (zg_ne rfl (zg_ne rfl (mb_66 x))) (by decide +kernel) (by decide +kernel) (by decide +kernel) rfl ?_
      refine zw_iastoreS 4 89 f165_88 rfl (zg_ne rfl (zg_ne rfl (mb_80 x))) (by decide +kernel) (by decide +kernel) (by decide +kernel) rfl ?_
      refine zw_iinc 5 [(1, .int 5), (0, .ref 52)] 92 f165_89 rfl rfl (by decide +kernel) (by decide +kernel) rfl ?_
      refine zw_goto 47 f165_92 (by decide +kernel) ?_
      refine zw_iload_n 48 f165_47 rfl rfl ?_
      refine zw_bipush 8 50 f165_48 rfl (by decide +kernel) ?_
      refine zw_ic_ge_f 53 95 f165_50 (by decide +kernel) rfl (by decide +kernel) ?_
      refine zw_aload_n 54 f165_53 rfl rfl ?_
      refine zw_getfield 57 f165_54 rfl g165_96_12 (zg_eq (zg_eq (mb_52 x))) (zg_ne rfl (zg_ne rfl rfl)) ?_
      refine zw_iload_n 58 f165_57 rfl rfl ?_
      refine zw_aload_n 59 f165_58 rfl rfl ?_
      refine zw_getfield 62 f165_59 rfl g165_44_12 (zg_eq (zg_eq (mb_52 x))) (zg_ne rfl (zg_ne rfl rfl)) ?_
      refine zw_iload_n 63 f165_62 rfl rfl ?_
      refine zw_laload 5 0 64 f165_63 rfl (zg_ne rfl (zg_ne rfl (mb_63 x))) (by decide +kernel) (by decide +kernel) (by decide +kernel) rfl ?_
      refine zw_lastoreS 5 65 f165_64 rfl (zg_ne rfl (zg_ne rfl (mb_77 x))) (by decide +kernel) (by decide +kernel) (by decide +kernel) rfl ?_
      refine zw_aload_n 66 f165_65 rfl rfl ?_
      refine zw_getfield 69 f165_66 rfl g165_102_12 (zg_eq (zg_eq (mb_52 x))) (zg_ne rfl (zg_ne rfl rfl)) ?_
      refine zw_iload_n 70 f165_69 rfl rfl ?_
      refine zw_aload_n 71 f165_70 rfl rfl ?_
      refine zw_getfield 74 f165_71 rfl g165_52_12 (zg_eq (zg_eq (mb_52 x))) (zg_ne rfl (zg_ne rfl rfl)) ?_
      refine zw_iload_n 75 f165_74 rfl rfl ?_
      refine zw_baload 5 0 76 f165_75 rfl (zg_ne rfl (zg_ne rfl (mb_65 x))) (by decide +kernel) (by decide +kernel) (by decide +kernel) rfl ?_
      refine zw_bastoreS 5 77 f165_76 rfl (zg_ne rfl (zg_ne rfl (mb_79 x))) (by decide +kernel) (by decide +kernel) (by decide +kernel) (by decide +kernel) ?_
      refine zw_aload_n 78 f165_77 rfl rfl ?_
      refine zw_getfield 81 f165_78 rfl g165_105_12 (zg_eq (zg_eq (mb_52 x))) (zg_ne rfl (zg_ne rfl rfl)) ?_
      refine zw_iload_n 82 f165_81 rfl rfl ?_
      refine zw_aload_n 83 f165_82 rfl rfl ?_
      refine zw_getfield 86 f165_83 rfl g165_55_12 (zg_eq (zg_eq (mb_52 x))) (zg_ne rfl (zg_ne rfl rfl)) ?_
      refine zw_iload_n 87 f165_86 rfl rfl ?_
      refine zw_iaload 5 0 88 f165_87 rfl (zg_ne rfl (zg_ne rfl (mb_66 x))) (by decide +kernel) (by decide +kernel) (by decide +kernel) rfl ?_
      refine zw_iastoreS 5 89 f165_88 rfl (zg_ne rfl (zg_ne rfl (mb_80 x))) (by decide +kernel) (by decide +kernel) (by decide +kernel) rfl ?_
      refine zw_iinc 6 [(1, .int 6), (0, .ref 52)] 92 f165_89 rfl rfl (by decide +kernel) (by decide +kernel) rfl ?_
      refine zw_goto 47 f165_92 (by decide +kernel) ?_
      refine zw_iload_n 48 f165_47 rfl rfl ?_
      refine zw_bipush 8 50 f165_48 rfl (by decide +kernel) ?_
      refine zw_ic_ge_f 53 95 f165_50 (by decide +kernel) rfl (by decide +kernel) ?_
      refine zw_aload_n 54 f165_53 rfl rfl ?_
      refine zw_getfield 57 f165_54 rfl g165_96_12 (zg_eq (zg_eq (mb_52 x))) (zg_ne rfl (zg_ne rfl rfl)) ?_
      refine zw_iload_n 58 f165_57 rfl rfl ?_
      refine zw_aload_n 59 f165_58 rfl rfl ?_
      refine zw_getfield 62 f165_59 rfl g165_44_12 (zg_eq (zg_eq (mb_52 x))) (zg_ne rfl (zg_ne rfl rfl)) ?_
      refine zw_iload_n 63 f165_62 rfl rfl ?_
      refine zw_laload 6 0 64 f165_63 rfl (zg_ne rfl (zg_ne rfl (mb_63 x))) (by decide +kernel) (by decide +kernel) (by decide +kernel) rfl ?_
      refine zw_lastoreS 6 65 f165_64 rfl (zg_ne rfl (zg_ne rfl (mb_77 x))) (by decide +kernel) (by decide +kernel) (by decide +kernel) rfl ?_
      refine zw_aload_n 66 f165_65 rfl rfl ?_
      refine zw_getfield 69 f165_66 rfl g165_102_12 (zg_eq (zg_eq (mb_52 x))) (zg_ne rfl (zg_ne rfl rfl)) ?_
      refine zw_iload_n 70 f165_69 rfl rfl ?_
      refine zw_aload_n 71 f165_70 rfl rfl ?_
      refine zw_getfield 74 f165_71 rfl g165_52_12 (zg_eq (zg_eq (mb_52 x))) (zg_ne rfl (zg_ne rfl rfl)) ?_
      refine zw_iload_n 75 f165_74 rfl rfl ?_
      refine zw_baload 6 0 76 f165_75 rfl (zg_ne rfl (zg_ne rfl (mb_65 x))) (by decide +kernel) (by decide +kernel) (by decide +kernel) rfl ?_
      refine zw_bastoreS 6 77 f165_76 rfl (zg_ne rfl (zg_ne rfl (mb_79 x))) (by decide +kernel) (by decide +kernel) (by decide +kernel) (by decide +kernel) ?_
      refine zw_aload_n 78 f165_77 rfl rfl ?_
      refine zw_getfield 81 f165_78 rfl g165_105_12 (zg_eq (zg_eq (mb_52 x))) (zg_ne rfl (zg_ne rfl rfl)) ?_
      refine zw_iload_n 82 f165_81 rfl rfl ?_
      refine zw_aload_n 83 f165_82 rfl rfl ?_
      refine zw_getfield 86 f165_83 rfl g165_55_12 (zg_eq (zg_eq (mb_52 x))) (zg_ne rfl (zg_ne rfl rfl)) ?_
      refine zw_iload_n 87 f165_86 rfl rfl ?_
      refine zw_iaload 6 0 88 f165_87 rfl (zg_ne rfl (zg_ne rfl (mb_66 x))) (by decide +kernel) (by decide +kernel) (by decide +kernel) rfl ?_
      refine zw_iastoreS 6 89 f165_88 rfl (zg_ne rfl (zg_ne rfl (mb_80 x))) (by decide +kernel) (by decide +kernel) (by decide +kernel) rfl ?_
      refine zw_iinc 7 [(1, .int 7), (0, .ref 52)] 92 f165_89 rfl rfl (by decide +kernel) (by decide +kernel) rfl ?_
      refine zw_goto 47 f165_92 (by decide +kernel) ?_
      refine zw_iload_n 48 f165_47 rfl rfl ?_
      refine zw_bipush 8 50 f165_48 rfl (by decide +kernel) ?_
      refine zw_ic_ge_f 53 95 f165_50 (by decide +kernel) rfl (by decide +kernel) ?_
      refine zw_aload_n 54 f165_53 rfl rfl ?_
      refine zw_getfield 57 f165_54 rfl g165_96_12 (zg_eq (zg_eq (mb_52 x))) (zg_ne rfl (zg_ne rfl rfl)) ?_
      refine zw_iload_n 58 f165_57 rfl rfl ?_
      refine zw_aload_n 59 f165_58 rfl rfl ?_
      refine zw_getfield 62 f165_59 rfl g165_44_12 (zg_eq (zg_eq (mb_52 x))) (zg_ne rfl (zg_ne rfl rfl)) ?_
      refine zw_iload_n 63 f165_62 rfl rfl ?_
      refine zw_laload 7 0 64 f165_63 rfl (zg_ne rfl (zg_ne rfl (mb_63 x))) (by decide +kernel) (by decide +kernel) (by decide +kernel) rfl ?_
      refine zw_lastoreS 7 65 f165_64 rfl (zg_ne rfl (zg_ne rfl (mb_77 x))) (by decide +kernel) (by decide +kernel) (by decide +kernel) rfl ?_
      refine zw_aload_n 66 f165_65 rfl rfl ?_
      refine zw_getfield 69 f165_66 rfl g165_102_12 (zg_eq (zg_eq (mb_52 x))) (zg_ne rfl (zg_ne rfl rfl)) ?_
      refine zw_iload_n 70 f165_69 rfl rfl ?_
      refine zw_aload_n 71 f165_70 rfl rfl ?_
      refine zw_getfield 74 f165_71 rfl g165_52_12 (zg_eq (zg_eq (mb_52 x))) (zg_ne rfl (zg_ne rfl rfl)) ?_
      refine zw_iload_n 75 f165_74 rfl rfl ?_
      refine zw_baload 7 0 76 f165_75 rfl (zg_ne rfl (zg_ne rfl (mb_65 x))) (by decide +kernel) (by decide +kernel) (by decide +kernel) rfl ?_
      refine zw_bastoreS 7 77 f165_76 rfl (zg_ne rfl (zg_ne rfl (mb_79 x))) (by decide +kernel) (by decide +kernel) (by decide +kernel) (by decide +kernel) ?_
      refine zw_aload_n 78 f165_77 rfl rfl ?_
      refine zw_getfield 81 f165_78 rfl g165_105_12 (zg_eq (zg_eq (mb_52 x))) (zg_ne rfl (zg_ne rfl rfl)) ?_
      refine zw_iload_n 82 f165_81 rfl rfl ?_
      refine zw_aload_n 83 f165_82 rfl rfl ?_
      refine zw_getfield 86 f165_83 rfl g165_55_12 (zg_eq (zg_eq (mb_52 x))) (zg_ne rfl (zg_ne rfl rfl)) ?_
      refine zw_iload_n 87 f165_86 rfl rfl ?_
      refine zw_iaload 7 0 88 f165_87 rfl (zg_ne rfl (zg_ne rfl (mb_66 x))) (by decide +kernel) (by decide +kernel) (by decide +kernel) rfl ?_
      refine zw_iastoreS 7 89 f165_88 rfl (zg_ne rfl (zg_ne rfl (mb_80 x))) (by decide +kernel) (by decide +kernel) (by decide +kernel) rfl ?_
      refine zw_iinc 8 [(1, .int 8), (0, .ref 52)] 92 f165_89 rfl rfl (by decide +kernel) (by decide +kernel) rfl ?_
      refine zw_goto 47 f165_92 (by decide +kernel) ?_
      refine zw_iload_n 48 f165_47 rfl rfl ?_
      refine zw_bipush 8 50 f165_48 rfl (by decide +kernel) ?_
      refine zw_ic_ge_t 95 f165_50 (by decide +kernel) (by decide +kernel) ?_
      refine zw_iconst 0 96 f165_95 rfl (by decide +kernel) ?_
      refine zw_istore_n [(1, .int 0), (0, .ref 52)] 97 f165_96 rfl (by decide +kernel) rfl ?_
      refine zw_iload_n 98 f165_97 rfl rfl ?_
      refine zw_bipush 14 100 f165_98 rfl (by decide +kernel) ?_
      refine zw_ic_ge_f 103 121 f165_100 (by decide +kernel) rfl (by decide +kernel) ?_
      refine zw_aload_n 104 f165_103 rfl rfl ?_
      refine zw_getfield 107 f165_104 rfl g165_99_12 (zg_eq (zg_eq (mb_52 x))) (zg_ne rfl (zg_ne rfl rfl)) ?_
      refine zw_iload_n 108 f165_107 rfl rfl ?_
      refine zw_aload_n 109 f165_108 rfl rfl ?_
      refine zw_getfield 112 f165_109 rfl g165_48_12 (zg_eq (zg_eq (mb_52 x))) (zg_ne rfl (zg_ne rfl rfl)) ?_
      refine zw_iload_n 113 f165_112 rfl rfl ?_
      refine zw_baload 0 0 114 f165_113 rfl (zg_ne rfl (zg_ne rfl (mb_64 x))) (by decide +kernel) (by decide +kernel) (by decide +kernel) rfl ?_
      refine zw_bastoreS 0 115 f165_114 rfl (zg_ne rfl (zg_ne rfl (mb_78 x))) (by decide +kernel) (by decide +kernel) (by decide +kernel) (by decide +kernel) ?_
      refine zw_iinc 1 [(1, .int 1), (0, .ref 52)] 118 f165_115 rfl rfl (by decide +kernel) (by decide +kernel) rfl ?_
      refine zw_goto 97 f165_118 (by decide +kernel) ?_
      refine zw_iload_n 98 f165_97 rfl rfl ?_
      refine zw_bipush 14 100 f165_98 rfl (by decide +kernel) ?_
      refine zw_ic_ge_f 103 121 f165_100 (by decide +kernel) rfl (by decide +kernel) ?_
      refine zw_aload_n 104 f165_103 rfl rfl ?_
      refine zw_getfield 107 f165_104 rfl g165_99_12 (zg_eq (zg_eq (mb_52 x))) (zg_ne rfl (zg_ne rfl rfl)) ?_
      refine zw_iload_n 108 f165_107 rfl rfl ?_
      refine zw_aload_n 109 f165_108 rfl rfl ?_
      refine zw_getfield 112 f165_109 rfl g165_48_12 (zg_eq (zg_eq (mb_52 x))) (zg_ne rfl (zg_ne rfl rfl)) ?_
      refine zw_iload_n 113 f165_112 rfl rfl ?_
      refine zw_baload 1 0 114 f165_113 rfl (zg_ne rfl (zg_ne rfl (mb_64 x))) (by decide +kernel) (by decide +kernel) (by decide +kernel) rfl ?_
      refine zw_bastoreS 1 115 f165_114 rfl (zg_ne rfl (zg_ne rfl (mb_78 x))) (by decide +kernel) (by decide +kernel) (by decide +kernel) (by decide +kernel) ?_
      refine zw_iinc 2 [(1, .int 2), (0, .ref 52)] 118 f165_115 rfl rfl (by decide +kernel) (by decide +kernel) rfl ?_
      refine zw_goto 97 f165_118 (by decide +kernel) ?_
      refine zw_iload_n 98 f165_97 rfl rfl ?_
      refine zw_bipush 14 100 f165_98 rfl (by decide +kernel) ?_
      refine zw_ic_ge_f 103 121 f165_100 (by decide +kernel) rfl (by decide +kernel) ?_
      refine zw_aload_n 104 f165_103 rfl rfl ?_
      refine zw_getfield 107 f165_104 rfl g165_99_12 (zg_eq (zg_eq (mb_52 x))) (zg_ne rfl (zg_ne rfl rfl)) ?_
      refine zw_iload_n 108 f165_107 rfl rfl ?_
      refine zw_aload_n 109 f165_108 rfl rfl ?_
      refine zw_getfield 112 f165_109 rfl g165_48_12 (zg_eq (zg_eq (mb_52 x))) (zg_ne rfl (zg_ne rfl rfl)) ?_
      refine zw_iload_n 113 f165_112 rfl rfl ?_
      refine zw_baload 2 0 114 f165_113 rfl (zg_ne rfl (zg_ne rfl (mb_64 x))) (by decide +kernel) (by decide +kernel) (by decide +kernel) rfl ?_
      refine zw_bastoreS 2 115 f165_114 rfl (zg_ne rfl (zg_ne rfl (mb_78 x))) (by decide +kernel) (by decide +kernel) (by decide +kernel) (by decide +kernel) ?_
      refine zw_iinc 3 [(1, .int 3), (0, .ref 52)] 118 f165_115 rfl rfl (by decide +kernel) (by decide +kernel) rfl ?_
      refine zw_goto 97 f165_118 (by decide +kernel) ?_
      refine zw_iload_n 98 f165_97 rfl rfl ?_
      refine zw_bipush 14 100 f165_98 rfl (by decide +kernel) ?_
      refine zw_ic_ge_f 103 121 f165_100 (by decide +kernel) rfl (by decide +kernel) ?_
      refine zw_aload_n 104 f165_103 rfl rfl ?_
      refine zw_getfield 107 f165_104 rfl g165_99_12 (zg_eq (zg_eq (mb_52 x))) (zg_ne rfl (zg_ne rfl rfl)) ?_
      refine zw_iload_n 108 f165_107 rfl rfl ?_
      refine zw_aload_n 109 f165_108 rfl rfl ?_
      refine zw_getfield 112 f165_109 rfl g165_48_12 (zg_eq (zg_eq (mb_52 x))) (zg_ne rfl (zg_ne rfl rfl)) ?_
      refine zw_iload_n 113 f165_112 rfl rfl ?_
      refine zw_baload 3 0 114 f165_113 rfl (zg_ne rfl (zg_ne rfl (mb_64 x))) (by decide +kernel) (by decide +kernel) (by decide +kernel) rfl ?_
      refine zw_bastoreS 3 115 f165_114 rfl (zg_ne rfl (zg_ne rfl (mb_78 x))) (by decide +kernel) (by decide +kernel) (by decide +kernel) (by decide +kernel) ?_
      refine zw_iinc 4 [(1, .int 4), (0, .ref 52)] 118 f165_115 rfl rfl (by decide +kernel) (by decide +kernel) rfl ?_
      refine zw_goto 97 f165_118 (by decide +kernel) ?_
      refine zw_iload_n 98 f165_97 rfl rfl ?_
      refine zw_bipush 14 100 f165_98 rfl (by decide +kernel) ?_
      refine zw_ic_ge_f 103 121 f165_100 (by decide +kernel) rfl (by decide +kernel) ?_
      refine zw_aload_n 104 f165_103 rfl rfl ?_
      refine zw_getfield 107 f165_104 rfl g165_99_12 (zg_eq (zg_eq (mb_52 x))) (zg_ne rfl (zg_ne rfl rfl)) ?_
      refine zw_iload_n 108 f165_107 rfl rfl ?_
      refine zw_aload_n 109 f165_108 rfl rfl ?_
      refine zw_getfield 112 f165_109 rfl g165_48_12 (zg_eq (zg_eq (mb_52 x))) (zg_ne rfl (zg_ne rfl rfl)) ?_
      refine zw_iload_n 113 f165_112 rfl rfl ?_
      refine zw_baload 4 0 114 f165_113 rfl (zg_ne rfl (zg_ne rfl (mb_64 x))) (by decide +kernel) (by decide +kernel) (by decide +kernel) rfl ?_
      refine zw_bastoreS 4 115 f165_114 rfl (zg_ne rfl (zg_ne rfl (mb_78 x))) (by decide +kernel) (by decide +kernel) (by decide +kernel) (by decide +kernel) ?_
      refine zw_iinc 5 [(1, .int 5), (0, .ref 52)] 118 f165_115 rfl rfl (by decide +kernel) (by decide +kernel) rfl ?_
      refine zw_goto 97 f165_118 (by decide +kernel) ?_
      refine zw_iload_n 98 f165_97 rfl rfl ?_
      refine zw_bipush 14 100 f165_98 rfl (by decide +kernel) ?_
      refine zw_ic_ge_f 103 121 f165_100 (by decide +kernel) rfl (by decide +kernel) ?_
      refine zw_aload_n 104 f165_103 rfl rfl ?_
      refine zw_getfield 107 f165_104 rfl g165_99_12 (zg_eq (zg_eq (mb_52 x))) (zg_ne rfl (zg_ne rfl rfl)) ?_
      refine zw_iload_n 108 f165_107 rfl rfl ?_
      refine zw_aload_n 109 f165_108 rfl rfl ?_
      refine zw_getfield 112 f165_109 rfl g165_48_12 (zg_eq (zg_eq (mb_52 x))) (zg_ne rfl (zg_ne rfl rfl)) ?_
      refine zw_iload_n 113 f165_112 rfl rfl ?_
      refine zw_baload 5 0 114 f165_113 rfl (zg_ne rfl (zg_ne rfl (mb_64 x))) (by decide +kernel) (by decide +kernel) (by decide +kernel) rfl ?_
      refine zw_bastoreS 5 115 f165_114 rfl (zg_ne rfl (zg_ne rfl (mb_78 x))) (by decide +kernel) (by decide +kernel) (by decide +kernel) (by decide +kernel) ?_
      refine zw_iinc 6 [(1, .int 6), (0, .ref 52)] 118 f165_115 rfl rfl (by decide +kernel) (by decide +kernel) rfl ?_
      refine zw_goto 97 f165_118 (by decide +kernel) ?_
      refine zw_iload_n 98 f165_97 rfl rfl ?_
      refine zw_bipush 14 100 f165_98 rfl (by decide +kernel) ?_
      refine zw_ic_ge_f 103 121 f165_100 (by decide +kernel) rfl (by decide +kernel) ?_
      refine zw_aload_n 104 f165_103 rfl rfl ?_
      refine zw_getfield 107 f165_104 rfl g165_99_12 (zg_eq (zg_eq (mb_52 x))) (zg_ne rfl (zg_ne rfl rfl)) ?_
      refine zw_iload_n 108 f165_107 rfl rfl ?_
      refine zw_aload_n 109 f165_108 rfl rfl ?_
      refine zw_getfield 112 f165_109 rfl g165_48_12 (zg_eq (zg_eq (mb_52 x))) (zg_ne rfl (zg_ne rfl rfl)) ?_
      refine zw_iload_n 113 f165_112 rfl rfl ?_
      refine zw_baload 6 0 114 f165_113 rfl (zg_ne rfl (zg_ne rfl (mb_64 x))) (by decide +kernel) (by decide +kernel) (by decide +kernel) rfl ?_
      refine zw_bastoreS 6 115 f165_114 rfl (zg_ne rfl (zg_ne rfl (mb_78 x))) (by decide +kernel) (by decide +kernel) (by decide +kernel) (by decide +kernel) ?_
      refine zw_iinc 7 [(1, .int 7), (0, .ref 52)] 118 f165_115 rfl rfl (by decide +kernel) (by decide +kernel) rfl ?_
      refine zw_goto 97 f165_118 (by decide +kernel) ?_
      refine zw_iload_n 98 f165_97 rfl rfl ?_
      refine zw_bipush 14 100 f165_98 rfl (by decide +kernel) ?_
      refine zw_ic_ge_f 103 121 f165_100 (by decide +kernel) rfl (by decide +kernel) ?_
      refine zw_aload_n 104 f165_103 rfl rfl ?_
      refine zw_getfield 107 f165_104 rfl g165_99_12 (zg_eq (zg_eq (mb_52 x))) (zg_ne rfl (zg_ne rfl rfl)) ?_
      refine zw_iload_n 108 f165_107 rfl rfl ?_
      refine zw_aload_n 109 f165_108 rfl rfl ?_
      refine zw_getfield 112 f165_109 rfl g165_48_12 (zg_eq (zg_eq (mb_52 x))) (zg_ne rfl (zg_ne rfl rfl)) ?_
      refine zw_iload_n 113 f165_112 rfl rfl ?_
      refine zw_baload 7 0 114 f165_113 rfl (zg_ne rfl (zg_ne rfl (mb_64 x))) (by decide +kernel) (by decide +kernel) (by decide +kernel) rfl ?_
      refine zw_bastoreS 7 115 f165_114 rfl (zg_ne rfl (zg_ne rfl (mb_78 x))) (by decide +kernel) (by decide +kernel) (by decide +kernel) (by decide +kernel) ?_
      refine zw_iinc 8 [(1, .int 8), (0, .ref 52)] 118 f165_115 rfl rfl (by decide +kernel) (by decide +kernel) rfl ?_
      refine zw_goto 97 f165_118 (by decide +kernel) ?_
      refine zw_iload_n 98 f165_97 rfl rfl ?_
      refine zw_bipush 14 100 f165_98 rfl (by decide +kernel) ?_
      refine zw_ic_ge_f 103 121 f165_100 (by decide +kernel) rfl (by decide +kernel) ?_
      refine zw_aload_n 104 f165_103 rfl rfl ?_
      refine zw_getfield 107 f165_104 rfl g165_99_12 (zg_eq (zg_eq (mb_52 x))) (zg_ne rfl (zg_ne rfl rfl)) ?_
      refine zw_iload_n 108 f165_107 rfl rfl ?_
      refine zw_aload_n 109 f165_108 rfl rfl ?_
      refine zw_getfield 112 f165_109 rfl g165_48_12 (zg_eq (zg_eq (mb_52 x))) (zg_ne rfl (zg_ne rfl rfl)) ?_
      refine zw_iload_n 113 f165_112 rfl rfl ?_
      refine zw_baload 8 0 114 f165_113 rfl (zg_ne rfl (zg_ne rfl (mb_64 x))) (by decide +kernel) (by decide +kernel) (by decide +kernel) rfl ?_
      refine zw_bastoreS 8 115 f165_114 rfl (zg_ne rfl (zg_ne rfl (mb_78 x))) (by decide +kernel) (by decide +kernel) (by decide +kernel) (by decide +kernel) ?_
      refine zw_iinc 9 [(1, .int 9), (0, .ref 52)] 118 f165_115 rfl rfl (by decide +kernel) (by decide +kernel) rfl ?_
      refine zw_goto 97 f165_118 (by decide +kernel) ?_
      refine zw_iload_n 98 f165_97 rfl rfl ?_
      refine zw_bipush 14 100 f165_98 rfl (by decide +kernel) ?_
      refine zw_ic_ge_f 103 121 f165_100 (by decide +kernel) rfl (by decide +kernel) ?_
      refine zw_aload_n 104 f165_103 rfl rfl ?_
      refine zw_getfield 107 f165_104 rfl g165_99_12 (zg_eq (zg_eq (mb_52 x))) (zg_ne rfl (zg_ne rfl rfl)) ?_
      refine zw_iload_n 108 f165_107 rfl rfl ?_
      refine zw_aload_n 109 f165_108 rfl rfl ?_
      refine zw_getfield 112 f165_109 rfl g165_48_12 (zg_eq (zg_eq (mb_52 x))) (zg_ne rfl (zg_ne rfl rfl)) ?_
      refine zw_iload_n 113 f165_112 rfl rfl ?_
      refine zw_baload 9 0 114 f165_113 rfl (zg_ne rfl (zg_ne rfl (mb_64 x))) (by decide +kernel) (by decide +kernel) (by decide +kernel) rfl ?_
      refine zw_bastoreS 9 115 f165_114 rfl (zg_ne rfl (zg_ne rfl (mb_78 x))) (by decide +kernel) (by decide +kernel) (by decide +kernel) (by decide +kernel) ?_
      refine zw_iinc 10 [(1, .int 10), (0, .ref 52)] 118 f165_115 rfl rfl (by decide +kernel) (by decide +kernel) rfl ?_
      refine zw_goto 97 f165_118 (by decide +kernel) ?_
      refine zw_iload_n 98 f165_97 rfl rfl ?_
      refine zw_bipush 14 100 f165_98 rfl (by decide +kernel) ?_
      refine zw_ic_ge_f 103 121 f165_100 (by decide +kernel) rfl (by decide +kernel) ?_
      refine zw_aload_n 104 f165_103 rfl rfl ?_
      refine zw_getfield 107 f165_104 rfl g165_99_12 (zg_eq (zg_eq (mb_52 x))) (zg_ne rfl (zg_ne rfl rfl)) ?_
      refine zw_iload_n 108 f165_107 rfl rfl ?_
      refine zw_aload_n 109 f165_108 rfl rfl ?_
      refine zw_getfield 112 f165_109 rfl g165_48_12 (zg_eq (zg_eq (mb_52 x))) (zg_ne rfl (zg_ne rfl rfl)) ?_
      refine zw_iload_n 113 f165_112 rfl rfl ?_
      refine zw_baload 10 0 114 f165_113 rfl (zg_ne rfl (zg_ne rfl (mb_64 x))) (by decide +kernel) (by decide +kernel) (by decide +kernel) rfl ?_
      refine zw_bastoreS 10 115 f165_114 rfl (zg_ne rfl (zg_ne rfl (mb_78 x))) (by decide +kernel) (by decide +kernel) (by decide +kernel) (by decide +kernel) ?_
      refine zw_iinc 11 [(1, .int 11), (0, .ref 52)] 118 f165_115 rfl rfl (by decide +kernel) (by decide +kernel) rfl ?_
      refine zw_goto 97 f165_118 (by decide +kernel) ?_
      refine zw_iload_n 98 f165_97 rfl rfl ?_
      refine zw_bipush 14 100 f165_98 rfl (by decide +kernel) ?_
      refine zw_ic_ge_f 103 121 f165_100 (by decide +kernel) rfl (by decide +kernel) ?_
      refine zw_aload_n 104 f165_103 rfl rfl ?_
      refine zw_getfield 107 f165_104 rfl g165_99_12 (zg_eq (zg_eq (mb_52 x))) (zg_ne rfl (zg_ne rfl rfl)) ?_
      refine zw_iload_n 108 f165_107 rfl rfl ?_
      refine zw_aload_n 109 f165_108 rfl rfl ?_
      refine zw_getfield 112 f165_109 rfl g165_48_12 (zg_eq (zg_eq (mb_52 x))) (zg_ne rfl (zg_ne rfl rfl)) ?_
      refine zw_iload_n 113 f165_112 rfl rfl ?_
      refine zw_baload 11 0 114 f165_113 rfl (zg_ne rfl (zg_ne rfl (mb_64 x))) (by decide +kernel) (by decide +kernel) (by decide +kernel) rfl ?_
      refine zw_bastoreS 11 115 f165_114 rfl (zg_ne rfl (zg_ne rfl (mb_78 x))) (by decide +kernel) (by decide +kernel) (by decide +kernel) (by decide +kernel) ?_
      refine zw_iinc 12 [(1, .int 12), (0, .ref 52)] 118 f165_115 rfl rfl (by decide +kernel) (by decide +kernel) rfl ?_
      refine zw_goto 97 f165_118 (by decide +kernel) ?_
      refine zw_iload_n 98 f165_97 rfl rfl ?_
      refine zw_bipush 14 100 f165_98 rfl (by decide +kernel) ?_
      refine zw_ic_ge_f 103 121 f165_100 (by decide +kernel) rfl (by decide +kernel) ?_
      refine zw_aload_n 104 f165_103 rfl rfl ?_
      refine zw_getfield 107 f165_104 rfl g165_99_12 (zg_eq (zg_eq (mb_52 x))) (zg_ne rfl (zg_ne rfl rfl)) ?_
      refine zw_iload_n 108 f165_107 rfl rfl ?_
      refine zw_aload_n 109 f165_108 rfl rfl ?_
      refine zw_getfield 112 f165_109 rfl g165_48_12 (zg_eq (zg_eq (mb_52 x))) (zg_ne rfl (zg_ne rfl rfl)) ?_
      refine zw_iload_n 113 f165_112 rfl rfl ?_
      refine zw_baload 12 0 114 f165_113 rfl (zg_ne rfl (zg_ne rfl (mb_64 x))) (by decide +kernel) (by decide +kernel) (by decide +kernel) rfl ?_
      refine zw_bastoreS 12 115 f165_114 rfl (zg_ne rfl (zg_ne rfl (mb_78 x))) (by decide +kernel) (by decide +kernel) (by decide +kernel) (by decide +kernel) ?_
      refine zw_iinc 13 [(1, .int 13), (0, .ref 52)] 118 f165_115 rfl rfl (by decide +kernel) (by decide +kernel) rfl ?_
      refine zw_goto 97 f165_118 (by decide +kernel) ?_
      refine zw_iload_n 98 f165_97 rfl rfl ?_
      refine zw_bipush 14 100 f165_98 rfl (by decide +kernel) ?_
      refine zw_ic_ge_f 103 121 f165_100 (by decide +kernel) rfl (by decide +kernel) ?_
      refine zw_aload_n 104 f165_103 rfl rfl ?_
      refine zw_getfield 107 f165_104 rfl g165_99_12 (zg_eq (zg_eq (mb_52 x))) (zg_ne rfl (zg_ne rfl rfl)) ?_
      refine zw_iload_n 108 f165_107 rfl rfl ?_
      refine zw_aload_n 109 f165_108 rfl rfl ?_
      refine zw_getfield 112 f165_109 rfl g165_48_12 (zg_eq (zg_eq (mb_52 x))) (zg_ne rfl (zg_ne rfl rfl)) ?_
      refine zw_iload_n 113 f165_112 rfl rfl ?_
      refine zw_baload 13 0 114 f165_113 rfl (zg_ne rfl (zg_ne rfl (mb_64 x))) (by decide +kernel) (by decide +kernel) (by decide +kernel) rfl ?_
      refine zw_bastoreS 13 115 f165_114 rfl (zg_ne rfl (zg_ne rfl (mb_78 x))) (by decide +kernel) (by decide +kernel) (by decide +kernel) (by decide +kernel) ?_
      refine zw_iinc 14 [(1, .int 14), (0, .ref 52)] 118 f165_115 rfl rfl (by decide +kernel) (by decide +kernel) rfl ?_
      refine zw_goto 97 f165_118 (by decide +kernel) ?_
      refine zw_iload_n 98 f165_97 rfl rfl ?_
      refine zw_bipush 14 100 f165_98 rfl (by decide +kernel) ?_
      refine zw_ic_ge_t 121 f165_100 (by decide +kernel) (by decide +kernel) ?_
      refine zw_vreturn f165_121 r165 u165 ⟨rfl, ?_⟩
      refine zw_aload_n 16 f170_15 rfl rfl ?_
      refine zw_virtual_i 19 0 0 [.ref 52] [(0, .ref 52)] f170_16 rfl n170_281 k170_281_12 rfl (zg_eq (zg_eq (mb_52 x))) (by decide +kernel) (Nat.le_of_ble_eq_true rfl) rfl rfl (by decide +kernel) (by decide +kernel) rfl (Nat.le_of_ble_eq_true rfl) rfl ?_
      refine zw_aload_n 1 f169_0 rfl rfl ?_
      refine zw_iconst 0 2 f169_1 rfl (by decide +kernel) ?_
      refine zw_virtual_v 5 0 0 [.ref 52, .int 0] [(0, .ref 52), (1, .int 0)] f169_2 rfl n169_264 k169_264_12 rfl (zg_eq (zg_eq (mb_52 x))) (by decide +kernel) (Nat.le_of_ble_eq_true rfl) rfl rfl (by decide +kernel) (by decide +kernel) rfl (Nat.le_of_ble_eq_true rfl) rfl ?_
      refine zw_lconst 0 1 f167_0 rfl (by decide +kernel) ?_
      refine zw_lstore_n [(2, .long 0), (0, .ref 52), (1, .int 0)] 2 f167_1 rfl (by decide +kernel) rfl ?_
      refine zw_iconst 0 3 f167_2 rfl (by decide +kernel) ?_
      refine zw_istore [(4, .int 0), (2, .long 0), (0, .ref 52), (1, .int 0)] 5 f167_3 rfl (by decide +kernel) rfl ?_
      refine zw_iload 7 f167_5 rfl rfl ?_
      refine zw_bipush 14 9 f167_7 rfl (by decide +kernel) ?_
      refine zw_ic_ge_f 12 39 f167_9 (by decide +kernel) rfl (by decide +kernel) ?_
      refine zw_lload_n 13 f167_12 rfl rfl ?_
      refine zw_aload_n 14 f167_13 rfl rfl ?_
      refine zw_getfield 17 f167_14 rfl g167_48_12 (zg_eq (zg_eq (mb_52 x))) (zg_ne rfl (zg_ne rfl rfl)) ?_
      refine zw_iload 19 f167_17 rfl rfl ?_
      refine zw_baload 0 0 20 f167_19 rfl (zg_ne rfl (zg_ne rfl (mb_64 x))) (by decide +kernel) (by decide +kernel) (by decide +kernel) rfl ?_
      refine zw_if_eq_t 30 f167_20 (by decide +kernel) (by decide +kernel) ?_
      refine zw_lconst 0 31 f167_30 rfl (by decide +kernel) ?_
      refine zw_lor 0 32 f167_31 rfl (by decide +kernel) ?_
      refine zw_lstore_n [(2, .long 0), (4, .int 0), (0, .ref 52), (1, .int 0)] 33 f167_32 rfl (by decide +kernel) rfl ?_
      refine zw_iinc 1 [(4, .int 1), (2, .long 0), (0, .ref 52), (1, .int 0)] 36 f167_33 rfl rfl (by decide +kernel) (by decide +kernel) rfl ?_
      refine zw_goto 5 f167_36 (by decide +kernel) ?_
      refine zw_iload 7 f167_5 rfl rfl ?_
      refine zw_bipush 14 9 f167_7 rfl (by decide +kernel) ?_
      refine zw_ic_ge_f 12 39 f167_9 (by decide +kernel) rfl (by decide +kernel) ?_
      refine zw_lload_n 13 f167_12 rfl rfl ?_
      refine zw_aload_n 14 f167_13 rfl rfl ?_
      refine zw_getfield 17 f167_14 rfl g167_48_12 (zg_eq (zg_eq (mb_52 x))) (zg_ne rfl (zg_ne rfl rfl)) ?_
      refine zw_iload 19 f167_17 rfl rfl ?_
      refine zw_baload 1 0 20 f167_19 rfl (zg_ne rfl (zg_ne rfl (mb_64 x))) (by decide +kernel) (by decide +kernel) (by decide +kernel) rfl ?_
      refine zw_if_eq_t 30 f167_20 (by decide +kernel) (by decide +kernel) ?_
      refine zw_lconst 0 31 f167_30 rfl (by decide +kernel) ?_
      refine zw_lor 0 32 f167_31 rfl (by decide +kernel) ?_
      refine zw_lstore_n [(2, .long 0), (4, .int 1), (0, .ref 52), (1, .int 0)] 33 f167_32 rfl (by decide +kernel) rfl ?_
      refine zw_iinc 2 [(4, .int 2), (2, .long 0), (0, .ref 52), (1, .int 0)] 36 f167_33 rfl rfl (by decide +kernel) (by decide +kernel) rfl ?_
      refine zw_goto 5 f167_36 (by decide +kernel) ?_
      refine zw_iload 7 f167_5 rfl rfl ?_
      refine zw_bipush 14 9 f167_7 rfl (by decide +kernel) ?_
      refine zw_ic_ge_f 12 39 f167_9 (by decide +kernel) rfl (by decide +kernel) ?_
      refine zw_lload_n 13 f167_12 rfl rfl ?_
      refine zw_aload_n 14 f167_13 rfl rfl ?_
      refine zw_getfield 17 f167_14 rfl g167_48_12 (zg_eq (zg_eq (mb_52 x))) (zg_ne rfl (zg_ne rfl rfl)) ?_
      refine zw_iload 19 f167_17 rfl rfl ?_
      refine zw_baload 2 0 20 f167_19 rfl (zg_ne rfl (zg_ne rfl (mb_64 x))) (by decide +kernel) (by decide +kernel) (by decide +kernel) rfl ?_
      refine zw_if_eq_t 30 f167_20 (by decide +kernel) (by decide +kernel) ?_
      refine zw_lconst 0 31 f167_30 rfl (by decide +kernel) ?_
      refine zw_lor 0 32 f167_31 rfl (by decide +kernel) ?_
      refine zw_lstore_n [(2, .long 0), (4, .int 2), (0, .ref 52), (1, .int 0)] 33 f167_32 rfl (by decide +kernel) rfl ?_
      refine zw_iinc 3 [(4, .int 3), (2, .long 0), (0, .ref 52), (1, .int 0)] 36 f167_33 rfl rfl (by decide +kernel) (by decide +kernel) rfl ?_
      refine zw_goto 5 f167_36 (by decide +kernel) ?_
      refine zw_iload 7 f167_5 rfl rfl ?_
      refine zw_bipush 14 9 f167_7 rfl (by decide +kernel) ?_
      refine zw_ic_ge_f 12 39 f167_9 (by decide +kernel) rfl (by decide +kernel) ?_
      refine zw_lload_n 13 f167_12 rfl rfl ?_
      refine zw_aload_n 14 f167_13 rfl rfl ?_
      refine zw_getfield 17 f167_14 rfl g167_48_12 (zg_eq (zg_eq (mb_52 x))) (zg_ne rfl (zg_ne rfl rfl)) ?_
      refine zw_iload 19 f167_17 rfl rfl ?_
      refine zw_baload 3 0 20 f167_19 rfl (zg_ne rfl (zg_ne rfl (mb_64 x))) (by decide +kernel) (by decide +kernel) (by decide +kernel) rfl ?_
      refine zw_if_eq_t 30 f167_20 (by decide +kernel) (by decide +kernel) ?_
      refine zw_lconst 0 31 f167_30 rfl (by decide +kernel) ?_
      refine zw_lor 0 32 f167_31 rfl (by decide +kernel) ?_
      refine zw_lstore_n [(2, .long 0), (4, .int 3), (0, .ref 52), (1, .int 0)] 33 f167_32 rfl (by decide +kernel) rfl ?_
      refine zw_iinc 4 [(4, .int 4), (2, .long 0), (0, .ref 52), (1, .int 0)] 36 f167_33 rfl rfl (by decide +kernel) (by decide +kernel) rfl ?_
      refine zw_goto 5 f167_36 (by decide +kernel) ?_
      refine zw_iload 7 f167_5 rfl rfl ?_
      refine zw_bipush 14 9 f167_7 rfl (by decide +kernel) ?_
      refine zw_ic_ge_f 12 39 f167_9 (by decide +kernel) rfl (by decide +kernel) ?_
      refine zw_lload_n 13 f167_12 rfl rfl ?_
      refine zw_aload_n 14 f167_13 rfl rfl ?_
      refine zw_getfield 17 f167_14 rfl g167_48_12 (zg_eq (zg_eq (mb_52 x))) (zg_ne rfl (zg_ne rfl rfl)) ?_
      refine zw_iload 19 f167_17 rfl rfl ?_
      refine zw_baload 4 0 20 f167_19 rfl (zg_ne rfl (zg_ne rfl (mb_64 x))) (by decide +kernel) (by decide +kernel) (by decide +kernel) rfl ?_
      refine zw_if_eq_t 30 f167_20 (by decide +kernel) (by decide +kernel) ?_
      refine zw_lconst 0 31 f167_30 rfl (by decide +kernel) ?_
      refine zw_lor 0 32 f167_31 rfl (by decide +kernel) ?_
      refine zw_lstore_n [(2, .long 0), (4, .int 4), (0, .ref 52), (1, .int 0)] 33 f167_32 rfl (by decide +kernel) rfl ?_
      refine zw_iinc 5 [(4, .int 5), (2, .long 0), (0, .ref 52), (1, .int 0)] 36 f167_33 rfl rfl (by decide +kernel) (by decide +kernel) rfl ?_
      refine zw_goto 5 f167_36 (by decide +kernel) ?_
      refine zw_iload 7 f167_5 rfl rfl ?_
      refine zw_bipush 14 9 f167_7 rfl (by decide +kernel) ?_
      refine zw_ic_ge_f 12 39 f167_9 (by decide +kernel) rfl (by decide +kernel) ?_
      refine zw_lload_n 13 f167_12 rfl rfl ?_
      refine zw_aload_n 14 f167_13 rfl rfl ?_
      refine zw_getfield 17 f167_14 rfl g167_48_12 (zg_eq (zg_eq (mb_52 x))) (zg_ne rfl (zg_ne rfl rfl)) ?_
      refine zw_iload 19 f167_17 rfl rfl ?_
      refine zw_baload 5 0 20 f167_19 rfl (zg_ne rfl (zg_ne rfl (mb_64 x))) (by decide +kernel) (by decide +kernel) (by decide +kernel) rfl ?_
      refine zw_if_eq_t 30 f167_20 (by decide +kernel) (by decide +kernel) ?_
      refine zw_lconst 0 31 f167_30 rfl (by decide +kernel) ?_
      refine zw_lor 0 32 f167_31 rfl (by decide +kernel) ?_
      refine zw_lstore_n [(2, .long 0), (4, .int 5), (0, .ref 52), (1, .int 0)] 33 f167_32 rfl (by decide +kernel) rfl ?_
      refine zw_iinc 6 [(4, .int 6), (2, .long 0), (0, .ref 52), (1, .int 0)] 36 f167_33 rfl rfl (by decide +kernel) (by decide +kernel) rfl ?_
      refine zw_goto 5 f167_36 (by decide +kernel) ?_
      refine zw_iload 7 f167_5 rfl rfl ?_
      refine zw_bipush 14 9 f167_7 rfl (by decide +kernel) ?_
      refine zw_ic_ge_f 12 39 f167_9 (by decide +kernel) rfl (by decide +kernel) ?_
      refine zw_lload_n 13 f167_12 rfl rfl ?_
      refine zw_aload_n 14 f167_13 rfl rfl ?_
      refine zw_getfield 17 f167_14 rfl g167_48_12 (zg_eq (zg_eq (mb_52 x))) (zg_ne rfl (zg_ne rfl rfl)) ?_
      refine zw_iload 19 f167_17 rfl rfl ?_
      refine zw_baload 6 0 20 f167_19 rfl (zg_ne rfl (zg_ne rfl (mb_64 x))) (by decide +kernel) (by decide +kernel) (by decide +kernel) rfl ?_
      refine zw_if_eq_t 30 f167_20 (by decide +kernel) (by decide +kernel) ?_
      refine zw_lconst 0 31 f167_30 rfl (by decide +kernel) ?_
      refine zw_lor 0 32 f167_31 rfl (by decide +kernel) ?_
      refine zw_lstore_n [(2, .long 0), (4, .int 6), (0, .ref 52), (1, .int 0)] 33 f167_32 rfl (by decide +kernel) rfl ?_
      refine zw_iinc 7 [(4, .int 7), (2, .long 0), (0, .ref 52), (1, .int 0)] 36 f167_33 rfl rfl (by decide +kernel) (by decide +kernel) rfl ?_
      refine zw_goto 5 f167_36 (by decide +kernel) ?_
      refine zw_iload 7 f167_5 rfl rfl ?_
      refine zw_bipush 14 9 f167_7 rfl (by decide +kernel) ?_
      refine zw_ic_ge_f 12 39 f167_9 (by decide +kernel) rfl (by decide +kernel) ?_
      refine zw_lload_n 13 f167_12 rfl rfl ?_
      refine zw_aload_n 14 f167_13 rfl rfl ?_
      refine zw_getfield 17 f167_14 rfl g167_48_12 (zg_eq (zg_eq (mb_52 x))) (zg_ne rfl (zg_ne rfl rfl)) ?_
      refine zw_iload 19 f167_17 rfl rfl ?_
      refine zw_baload 7 0 20 f167_19 rfl (zg_ne rfl (zg_ne rfl (mb_64 x))) (by decide +kernel) (by decide +kernel) (by decide +kernel) rfl ?_
      refine zw_if_eq_t 30 f167_20 (by decide +kernel) (by decide +kernel) ?_
      refine zw_lconst 0 31 f167_30 rfl (by decide +kernel) ?_
      refine zw_lor 0 32 f167_31 rfl (by decide +kernel) ?_
      refine zw_lstore_n [(2, .long 0), (4, .int 7), (0, .ref 52), (1, .int 0)] 33 f167_32 rfl (by decide +kernel) rfl ?_
      refine zw_iinc 8 [(4, .int 8), (2, .long 0), (0, .ref 52), (1, .int 0)] 36 f167_33 rfl rfl (by decide +kernel) (by decide +kernel) rfl ?_
      refine zw_goto 5 f167_36 (by decide +kernel) ?_
      refine zw_iload 7 f167_5 rfl rfl ?_
      refine zw_bipush 14 9 f167_7 rfl (by decide +kernel) ?_
      refine zw_ic_ge_f 12 39 f167_9 (by decide +kernel) rfl (by decide +kernel) ?_
      refine zw_lload_n 13 f167_12 rfl rfl ?_
      refine zw_aload_n 14 f167_13 rfl rfl ?_
      refine zw_getfield 17 f167_14 rfl g167_48_12 (zg_eq (zg_eq (mb_52 x))) (zg_ne rfl (zg_ne rfl rfl)) ?_
      refine zw_iload 19 f167_17 rfl rfl ?_
      refine zw_baload 8 0 20 f167_19 rfl (zg_ne rfl (zg_ne rfl (mb_64 x))) (by decide +kernel) (by decide +kernel) (by decide +kernel) rfl ?_
      refine zw_if_eq_t 30 f167_20 (by decide +kernel) (by decide +kernel) ?_
      refine zw_lconst 0 31 f167_30 rfl (by decide +kernel) ?_
      refine zw_lor 0 32 f167_31 rfl (by decide +kernel) ?_
      refine zw_lstore_n [(2, .long 0), (4, .int 8), (0, .ref 52), (1, .int 0)] 33 f167_32 rfl (by decide +kernel) rfl ?_
      refine zw_iinc 9 [(4, .int 9), (2, .long 0), (0, .ref 52), (1, .int 0)] 36 f167_33 rfl rfl (by decide +kernel) (by decide +kernel) rfl ?_
      refine zw_goto 5 f167_36 (by decide +kernel) ?_
      refine zw_iload 7 f167_5 rfl rfl ?_
      refine zw_bipush 14 9 f167_7 rfl (by decide +kernel) ?_
      refine zw_ic_ge_f 12 39 f167_9 (by decide +kernel) rfl (by decide +kernel) ?_
      refine zw_lload_n 13 f167_12 rfl rfl ?_
      refine zw_aload_n 14 f167_13 rfl rfl ?_
      refine zw_getfield 17 f167_14 rfl g167_48_12 (zg_eq (zg_eq (mb_52 x))) (zg_ne rfl (zg_ne rfl rfl)) ?_
      refine zw_iload 19 f167_17 rfl rfl ?_
      refine zw_baload 9 0 20 f167_19 rfl (zg_ne rfl (zg_ne rfl (mb_64 x))) (by decide +kernel) (by decide +kernel) (by decide +kernel) rfl ?_
      refine zw_if_eq_t 30 f167_20 (by decide +kernel) (by decide +kernel) ?_
      refine zw_lconst 0 31 f167_30 rfl (by decide +kernel) ?_
      refine zw_lor 0 32 f167_31 rfl (by decide +kernel) ?_
      refine zw_lstore_n [(2, .long 0), (4, .int 9), (0, .ref 52), (1, .int 0)] 33 f167_32 rfl (by decide +kernel) rfl ?_
      refine zw_iinc 10 [(4, .int 10), (2, .long 0), (0, .ref 52), (1, .int 0)] 36 f167_33 rfl rfl (by decide +kernel) (by decide +kernel) rfl ?_
      refine zw_goto 5 f167_36 (by decide +kernel) ?_
      refine zw_iload 7 f167_5 rfl rfl ?_
      refine zw_bipush 14 9 f167_7 rfl (by decide +kernel) ?_
      refine zw_ic_ge_f 12 39 f167_9 (by decide +kernel) rfl (by decide +kernel) ?_
      refine zw_lload_n 13 f167_12 rfl rfl ?_
      refine zw_aload_n 14 f167_13 rfl rfl ?_
      refine zw_getfield 17 f167_14 rfl g167_48_12 (zg_eq (zg_eq (mb_52 x))) (zg_ne rfl (zg_ne rfl rfl)) ?_
      refine zw_iload 19 f167_17 rfl rfl ?_
      refine zw_baload 10 0 20 f167_19 rfl (zg_ne rfl (zg_ne rfl (mb_64 x))) (by decide +kernel) (by decide +kernel) (by decide +kernel) rfl ?_
      refine zw_if_eq_t 30 f167_20 (by decide +kernel) (by decide +kernel) ?_
      refine zw_lconst 0 31 f167_30 rfl (by decide +kernel) ?_
      refine zw_lor 0 32 f167_31 rfl (by decide +kernel) ?_
      refine zw_lstore_n [(2, .long 0), (4, .int 10), (0, .ref 52), (1, .int 0)] 33 f167_32 rfl (by decide +kernel) rfl ?_
      refine zw_iinc 11 [(4, .int 11), (2, .long 0), (0, .ref 52), (1, .int 0)] 36 f167_33 rfl rfl (by decide +kernel) (by decide +kernel) rfl ?_
      refine zw_goto 5 f167_36 (by decide +kernel) ?_
      refine zw_iload 7 f167_5 rfl rfl ?_
      refine zw_bipush 14 9 f167_7 rfl (by decide +kernel) ?_
      refine zw_ic_ge_f 12 39 f167_9 (by decide +kernel) rfl (by decide +kernel) ?_
      refine zw_lload_n 13 f167_12 rfl rfl ?_
      refine zw_aload_n 14 f167_13 rfl rfl ?_
      refine zw_getfield 17 f167_14 rfl g167_48_12 (zg_eq (zg_eq (mb_52 x))) (zg_ne rfl (zg_ne rfl rfl)) ?_
      refine zw_iload 19 f167_17 rfl rfl ?_
      refine zw_baload 11 0 20 f167_19 rfl (zg_ne rfl (zg_ne rfl (mb_64 x))) (by decide +kernel) (by decide +kernel) (by decide +kernel) rfl ?_
      refine zw_if_eq_t 30 f167_20 (by decide +kernel) (by decide +kernel) ?_
      refine zw_lconst 0 31 f167_30 rfl (by decide +kernel) ?_
      refine zw_lor 0 32 f167_31 rfl (by decide +kernel) ?_
      refine zw_lstore_n [(2, .long 0), (4, .int 11), (0, .ref 52), (1, .int 0)] 33 f167_32 rfl (by decide +kernel) rfl ?_
      refine zw_iinc 12 [(4, .int 12), (2, .long 0), (0, .ref 52), (1, .int 0)] 36 f167_33 rfl rfl (by decide +kernel) (by decide +kernel) rfl ?_
      refine zw_goto 5 f167_36 (by decide +kernel) ?_
      refine zw_iload 7 f167_5 rfl rfl ?_
      refine zw_bipush 14 9 f167_7 rfl (by decide +kernel) ?_
      refine zw_ic_ge_f 12 39 f167_9 (by decide +kernel) rfl (by decide +kernel) ?_
      refine zw_lload_n 13 f167_12 rfl rfl ?_
      refine zw_aload_n 14 f167_13 rfl rfl ?_
      refine zw_getfield 17 f167_14 rfl g167_48_12 (zg_eq (zg_eq (mb_52 x))) (zg_ne rfl (zg_ne rfl rfl)) ?_
      refine zw_iload 19 f167_17 rfl rfl ?_
      refine zw_baload 12 0 20 f167_19 rfl (zg_ne rfl (zg_ne rfl (mb_64 x))) (by decide +kernel) (by decide +kernel) (by decide +kernel) rfl ?_
      refine zw_if_eq_t 30 f167_20 (by decide +kernel) (by decide +kernel) ?_
      refine zw_lconst 0 31 f167_30 rfl (by decide +kernel) ?_
      refine zw_lor 0 32 f167_31 rfl (by decide +kernel) ?_
      refine zw_lstore_n [(2, .long 0), (4, .int 12), (0, .ref 52), (1, .int 0)] 33 f167_32 rfl (by decide +kernel) rfl ?_
      refine zw_iinc 13 [(4, .int 13), (2, .long 0), (0, .ref 52), (1, .int 0)] 36 f167_33 rfl rfl (by decide +kernel) (by decide +kernel) rfl ?_
      refine zw_goto 5 f167_36 (by decide +kernel) ?_
      refine zw_iload 7 f167_5 rfl rfl ?_
      refine zw_bipush 14 9 f167_7 rfl (by decide +kernel) ?_
      refine zw_ic_ge_f 12 39 f167_9 (by decide +kernel) rfl (by decide +kernel) ?_
      refine zw_lload_n 13 f167_12 rfl rfl ?_
      refine zw_aload_n 14 f167_13 rfl rfl ?_
      refine zw_getfield 17 f167_14 rfl g167_48_12 (zg_eq (zg_eq (mb_52 x))) (zg_ne rfl (zg_ne rfl rfl)) ?_
      refine zw_iload 19 f167_17 rfl rfl ?_
      refine zw_baload 13 0 20 f167_19 rfl (zg_ne rfl (zg_ne rfl (mb_64 x))) (by decide +kernel) (by decide +kernel) (by decide +kernel) rfl ?_
      refine zw_if_eq_t 30 f167_20 (by decide +kernel) (by decide +kernel) ?_
      refine zw_lconst 0 31 f167_30 rfl (by decide +kernel) ?_
      refine zw_lor 0 32 f167_31 rfl (by decide +kernel) ?_
      refine zw_lstore_n [(2, .long 0), (4, .int 13), (0, .ref 52), (1, .int 0)] 33 f167_32 rfl (by decide +kernel) rfl ?_
      refine zw_iinc 14 [(4, .int 14), (2, .long 0), (0, .ref 52), (1, .int 0)] 36 f167_33 rfl rfl (by decide +kernel) (by decide +kernel) rfl ?_
      refine zw_goto 5 f167_36 (by decide +kernel) ?_
      refine zw_iload 7 f167_5 rfl rfl ?_
      refine zw_bipush 14 9 f167_7 rfl (by decide +kernel) ?_
      refine zw_ic_ge_t 39 f167_9 (by decide +kernel) (by decide +kernel) ?_
      refine zw_iconst 0 40 f167_39 rfl (by decide +kernel) ?_
      refine zw_istore [(4, .int 0), (2, .long 0), (0, .ref 52), (1, .int 0)] 42 f167_40 rfl (by decide +kernel) rfl ?_
      refine zw_iload 44 f167_42 rfl rfl ?_
      refine zw_bipush 8 46 f167_44 rfl (by decide +kernel) ?_
      refine zw_ic_ge_f 49 98 f167_46 (by decide +kernel) rfl (by decide +kernel) ?_
      refine zw_lload_n 50 f167_49 rfl rfl ?_
      refine zw_aload_n 51 f167_50 rfl rfl ?_
      refine zw_getfield 54 f167_51 rfl g167_52_12 (zg_eq (zg_eq (mb_52 x))) (zg_ne rfl (zg_ne rfl rfl)) ?_
      refine zw_iload 56 f167_54 rfl rfl ?_
      refine zw_baload 0 0 57 f167_56 rfl (zg_ne rfl (zg_ne rfl (mb_65 x))) (by decide +kernel) (by decide +kernel) (by decide +kernel) rfl ?_
      refine zw_if_eq_t 70 f167_57 (by decide +kernel) (by decide +kernel) ?_
      refine zw_lconst 0 71 f167_70 rfl (by decide +kernel) ?_
      refine zw_lor 0 72 f167_71 rfl (by decide +kernel) ?_
      refine zw_lstore_n [(2, .long 0), (4, .int 0), (0, .ref 52), (1, .int 0)] 73 f167_72 rfl (by decide +kernel) rfl ?_
      refine zw_aload_n 74 f167_73 rfl rfl ?_
      refine zw_getfield 77 f167_74 rfl g167_108_12 (zg_eq (zg_eq (mb_52 x))) (zg_ne rfl (zg_ne rfl rfl)) ?_
      refine zw_bipush 11 79 f167_77 rfl (by decide +kernel) ?_
      refine zw_iload_n 80 f167_79 rfl rfl ?_
      refine zw_imul 0 81 f167_80 rfl (by decide +kernel) ?_
      refine zw_iload 83 f167_81 rfl rfl ?_
      refine zw_iadd 0 84 f167_83 rfl (by decide +kernel) ?_
      refine zw_aload_n 85 f167_84 rfl rfl ?_
      refine zw_getfield 88 f167_85 rfl g167_44_12 (zg_eq (zg_eq (mb_52 x))) (zg_ne rfl (zg_ne rfl rfl)) ?_
      refine zw_iload 90 f167_88 rfl rfl ?_
      refine zw_laload 0 0 91 f167_90 rfl (zg_ne rfl (zg_ne rfl (mb_63 x))) (by decide +kernel) (by decide +kernel) (by decide +kernel) rfl ?_
      refine zw_lastoreS 0 92 f167_91 rfl (zg_ne rfl (zg_ne rfl (mb_81 x))) (by decide +kernel) (by decide +kernel) (by decide +kernel) rfl ?_
      refine zw_iinc 1 [(4, .int 1), (2, .long 0), (0, .ref 52), (1, .int 0)] 95 f167_92 rfl rfl (by decide +kernel) (by decide +kernel) rfl ?_
      refine zw_goto 42 f167_95 (by decide +kernel) ?_
      refine zw_iload 44 f167_42 rfl rfl ?_
      refine zw_bipush 8 46 f167_44 rfl (by decide +kernel) ?_
      refine zw_ic_ge_f 49 98 f167_46 (by decide +kernel) rfl (by decide +kernel) ?_
      refine zw_lload_n 50 f167_49 rfl rfl ?_
      refine zw_aload_n 51 f167_50 rfl rfl ?_
      refine zw_getfield 54 f167_51 rfl g167_52_12 (zg_eq (zg_eq (mb_52 x))) (zg_ne rfl (zg_ne rfl rfl)) ?_
      refine zw_iload 56 f167_54 rfl rfl ?_
      refine zw_baload 1 0 57 f167_56 rfl (zg_ne rfl (zg_ne rfl (mb_65 x))) (by decide +kernel) (by decide +kernel) (by decide +kernel) rfl ?_
      refine zw_if_eq_t 70 f167_57 (by decide +kernel) (by decide +kernel) ?_
      refine zw_lconst 0 71 f167_70 rfl (by decide +kernel) ?_
      refine zw_lor 0 72 f167_71 rfl (by decide +kernel) ?_
      refine zw_lstore_n [(2, .long 0), (4, .int 1), (0, .ref 52), (1, .int 0)] 73 f167_72 rfl (by decide +kernel) rfl ?_
      refine zw_aload_n 74 f167_73 rfl rfl ?_
      refine zw_getfield 77 f167_74 rfl g167_108_12 (zg_eq (zg_eq (mb_52 x))) (zg_ne rfl (zg_ne rfl rfl)) ?_
      refine zw_bipush 11 79 f167_77 rfl (by decide +kernel) ?_
      refine zw_iload_n 80 f167_79 rfl rfl ?_
      refine zw_imul 0 81 f167_80 rfl (by decide +kernel) ?_
      refine zw_iload 83 f167_81 rfl rfl ?_
      refine zw_iadd 1 84 f167_83 rfl (by decide +kernel) ?_
      refine zw_aload_n 85 f167_84 rfl rfl ?_
      refine zw_getfield 88 f167_85 rfl g167_44_12 (zg_eq (zg_eq (mb_52 x))) (zg_ne rfl (zg_ne rfl rfl)) ?_
      refine zw_iload 90 f167_88 rfl rfl ?_
      refine zw_laload 1 0 91 f167_90 rfl (zg_ne rfl (zg_ne rfl (mb_63 x))) (by decide +kernel) (by decide +kernel) (by decide +kernel) rfl ?_
      refine zw_lastoreS 1 92 f167_91 rfl (zg_ne rfl (zg_ne rfl (mb_81 x))) (by decide +kernel) (by decide +kernel) (by decide +kernel) rfl ?_
      refine zw_iinc 2 [(4, .int 2), (2, .long 0), (0, .ref 52), (1, .int 0)] 95 f167_92 rfl rfl (by decide +kernel) (by decide +kernel) rfl ?_
      refine zw_goto 42 f167_95 (by decide +kernel) ?_
      refine zw_iload 44 f167_42 rfl rfl ?_
      refine zw_bipush 8 46 f167_44 rfl (by decide +kernel) ?_
      refine zw_ic_ge_f 49 98 f167_46 (by decide +kernel) rfl (by decide +kernel) ?_
      refine zw_lload_n 50 f167_49 rfl rfl ?_
      refine zw_aload_n 51 f167_50 rfl rfl ?_
      refine zw_getfield 54 f167_51 rfl g167_52_12 (zg_eq (zg_eq (mb_52 x))) (zg_ne rfl (zg_ne rfl rfl)) ?_
      refine zw_iload 56 f167_54 rfl rfl ?_
      refine zw_baload 2 0 57 f167_56 rfl (zg_ne rfl (zg_ne rfl (mb_65 x))) (by decide +kernel) (by decide +kernel) (by decide +kernel) rfl ?_
      refine zw_if_eq_t 70 f167_57 (by decide +kernel) (by decide +kernel) ?_
      refine zw_lconst 0 71 f167_70 rfl (by decide +kernel) ?_
      refine zw_lor 0 72 f167_71 rfl (by decide +kernel) ?_
      refine zw_lstore_n [(2, .long 0), (4, .int 2), (0, .ref 52), (1, .int 0)] 73 f167_72 rfl (by decide +kernel) rfl ?_
      refine zw_aload_n 74 f167_73 rfl rfl ?_
      refine zw_getfield 77 f167_74 rfl g167_108_12 (zg_eq (zg_eq (mb_52 x))) (zg_ne rfl (zg_ne rfl rfl)) ?_
      refine zw_bipush 11 79 f167_77 rfl (by decide +kernel) ?_
      refine zw_iload_n 80 f167_79 rfl rfl ?_
      refine zw_imul 0 81 f167_80 rfl (by decide +kernel) ?_
      refine zw_iload 83 f167_81 rfl rfl ?_
      refine zw_iadd 2 84 f167_83 rfl (by decide +kernel) ?_
      refine zw_aload_n 85 f167_84 rfl rfl ?_
      refine zw_getfield 88 f167_85 rfl g167_44_12 (zg_eq (zg_eq (mb_52 x))) (zg_ne rfl (zg_ne rfl rfl)) ?_
      refine zw_iload 90 f167_88 rfl rfl ?_
      refine zw_laload 2 0 91 f167_90 rfl (zg_ne rfl (zg_ne rfl (mb_63 x))) (by decide +kernel) (by decide +kernel) (by decide +kernel) rfl ?_
      refine zw_lastoreS 2 92 f167_91 rfl (zg_ne rfl (zg_ne rfl (mb_81 x))) (by decide +kernel) (by decide +kernel) (by decide +kernel) rfl ?_
      refine zw_iinc 3 [(4, .int 3), (2, .long 0), (0, .ref 52), (1, .int 0)] 95 f167_92 rfl rfl (by decide +kernel) (by decide +kernel) rfl ?_
      refine zw_goto 42 f167_95 (by decide +kernel) ?_
      refine zw_iload 44 f167_42 rfl rfl ?_
      refine zw_bipush 8 46 f167_44 rfl (by decide +kernel) ?_
      refine zw_ic_ge_f 49 98 f167_46 (by decide +kernel) rfl (by decide +kernel) ?_
      refine zw_lload_n 50 f167_49 rfl rfl ?_
      refine zw_aload_n 51 f167_50 rfl rfl ?_
      refine zw_getfield 54 f167_51 rfl g167_52_12 (zg_eq (zg_eq (mb_52 x))) (zg_ne rfl (zg_ne rfl rfl)) ?_
      refine zw_iload 56 f167_54 rfl rfl ?_
      refine zw_baload 3 0 57 f167_56 rfl (zg_ne rfl (zg_ne rfl (mb_65 x))) (by decide +kernel) (by decide +kernel) (by decide +kernel) rfl ?_
      refine zw_if_eq_t 70 f167_57 (by decide +kernel) (by decide +kernel) ?_
      refine zw_lconst 0 71 f167_70 rfl (by decide +kernel) ?_
      refine zw_lor 0 72 f167_71 rfl (by decide +kernel) ?_
      refine zw_lstore_n [(2, .long 0), (4, .int 3), (0, .ref 52), (1, .int 0)] 73 f167_72 rfl (by decide +kernel) rfl ?_
      refine zw_aload_n 74 f167_73 rfl rfl ?_
      refine zw_getfield 77 f167_74 rfl g167_108_12 (zg_eq (zg_eq (mb_52 x))) (zg_ne rfl (zg_ne rfl rfl)) ?_
      refine zw_bipush 11 79 f167_77 rfl (by decide +kernel) ?_
      refine zw_iload_n 80 f167_79 rfl rfl ?_
      refine zw_imul 0 81 f167_80 rfl (by decide +kernel) ?_
      refine zw_iload 83 f167_81 rfl rfl ?_
      refine zw_iadd 3 84 f167_83 rfl (by decide +kernel) ?_
      refine zw_aload_n 85 f167_84 rfl rfl ?_
      refine zw_getfield 88 f167_85 rfl g167_44_12 (zg_eq (zg_eq (mb_52 x))) (zg_ne rfl (zg_ne rfl rfl)) ?_
      refine zw_iload 90 f167_88 rfl rfl ?_
      refine zw_laload 3 0 91 f167_90 rfl (zg_ne rfl (zg_ne rfl (mb_63 x))) (by decide +kernel) (by decide +kernel) (by decide +kernel) rfl ?_
      refine zw_lastoreS 3 92 f167_91 rfl (zg_ne rfl (zg_ne rfl (mb_81 x))) (by decide +kernel) (by decide +kernel) (by decide +kernel) rfl ?_
      refine zw_iinc 4 [(4, .int 4), (2, .long 0), (0, .ref 52), (1, .int 0)] 95 f167_92 rfl rfl (by decide +kernel) (by decide +kernel) rfl ?_
      refine zw_goto 42 f167_95 (by decide +kernel) ?_
      refine zw_iload 44 f167_42 rfl rfl ?_
      refine zw_bipush 8 46 f167_44 rfl (by decide +kernel) ?_
      refine zw_ic_ge_f 49 98 f167_46 (by decide +kernel) rfl (by decide +kernel) ?_
      refine zw_lload_n 50 f167_49 rfl rfl ?_
      refine zw_aload_n 51 f167_50 rfl rfl ?_
      refine zw_getfield 54 f167_51 rfl g167_52_12 (zg_eq (zg_eq (mb_52 x))) (zg_ne rfl (zg_ne rfl rfl)) ?_
      refine zw_iload 56 f167_54 rfl rfl ?_
      refine zw_baload 4 0 57 f167_56 rfl (zg_ne rfl (zg_ne rfl (mb_65 x))) (by decide +kernel) (by decide +kernel) (by decide +kernel) rfl ?_
      refine zw_if_eq_t 70 f167_57 (by decide +kernel) (by decide +kernel) ?_
      refine zw_lconst 0 71 f167_70 rfl (by decide +kernel) ?_
      refine zw_lor 0 72 f167_71 rfl (by decide +kernel) ?_
      refine zw_lstore_n [(2, .long 0), (4, .int 4), (0, .ref 52), (1, .int 0)] 73 f167_72 rfl (by decide +kernel) rfl ?_
      refine zw_aload_n 74 f167_73 rfl rfl ?_
      refine zw_getfield 77 f167_74 rfl g167_108_12 (zg_eq (zg_eq (mb_52 x))) (zg_ne rfl (zg_ne rfl rfl)) ?_
      refine zw_bipush 11 79 f167_77 rfl (by decide +kernel) ?_
      refine zw_iload_n 80 f167_79 rfl rfl ?_
      refine zw_imul 0 81 f167_80 rfl (by decide +kernel) ?_
      refine zw_iload 83 f167_81 rfl rfl ?_
      refine zw_iadd 4 84 f167_83 rfl (by decide +kernel) ?_
      refine zw_aload_n 85 f167_84 rfl rfl ?_
      refine zw_getfield 88 f167_85 rfl g167_44_12 (zg_eq (zg_eq (mb_52 x))) (zg_ne rfl (zg_ne rfl rfl)) ?_
      refine zw_iload 90 f167_88 rfl rfl ?_
      refine zw_laload 4 0 91 f167_90 rfl (zg_ne rfl (zg_ne rfl (mb_63 x))) (by decide +kernel) (by decide +kernel) (by decide +kernel) rfl ?_
      refine zw_lastoreS 4 92 f167_91 rfl (zg_ne rfl (zg_ne rfl (mb_81 x))) (by decide +kernel) (by decide +kernel) (by decide +kernel) rfl ?_
      refine zw_iinc 5 [(4, .int 5), (2, .long 0), (0, .ref 52), (1, .int 0)] 95 f167_92 rfl rfl (by decide +kernel) (by decide +kernel) rfl ?_
      refine zw_goto 42 f167_95 (by decide +kernel) ?_
      refine zw_iload 44 f167_42 rfl rfl ?_
      refine zw_bipush 8 46 f167_44 rfl (by decide +kernel) ?_
      refine zw_ic_ge_f 49 98 f167_46 (by decide +kernel) rfl (by decide +kernel) ?_
      refine zw_lload_n 50 f167_49 rfl rfl ?_
      refine zw_aload_n 51 f167_50 rfl rfl ?_
      refine zw_getfield 54 f167_51 rfl g167_52_12 (zg_eq (zg_eq (mb_52 x))) (zg_ne rfl (zg_ne rfl rfl)) ?_
      refine zw_iload 56 f167_54 rfl rfl ?_
      refine zw_baload 5 0 57 f167_56 rfl (zg_ne rfl (zg_ne rfl (mb_65 x))) (by decide +kernel) (by decide +kernel) (by decide +kernel) rfl ?_
      refine zw_if_eq_t 70 f167_57 (by decide +kernel) (by decide +kernel) ?_
      refine zw_lconst 0 71 f167_70 rfl (by decide +kernel) ?_
      refine zw_lor 0 72 f167_71 rfl (by decide +kernel) ?_
      refine zw_lstore_n [(2, .long 0), (4, .int 5), (0, .ref 52), (1, .int 0)] 73 f167_72 rfl (by decide +kernel) rfl ?_
      refine zw_aload_n 74 f167_73 rfl rfl ?_
      refine zw_getfield 77 f167_74 rfl g167_108_12 (zg_eq (zg_eq (mb_52 x))) (zg_ne rfl (zg_ne rfl rfl)) ?_
      refine zw_bipush 11 79 f167_77 rfl (by decide +kernel) ?_
      refine zw_iload_n 80 f167_79 rfl rfl ?_
      refine zw_imul 0 81 f167_80 rfl (by decide +kernel) ?_
      refine zw_iload 83 f167_81 rfl rfl ?_
      refine zw_iadd 5 84 f167_83 rfl (by decide +kernel) ?_
      refine zw_aload_n 85 f167_84 rfl rfl ?_
      refine zw_getfield 88 f167_85 rfl g167_44_12 (zg_eq (zg_eq (mb_52 x))) (zg_ne rfl (zg_ne rfl rfl)) ?_
      refine zw_iload 90 f167_88 rfl rfl ?_
      refine zw_laload 5 0 91 f167_90 rfl (zg_ne rfl (zg_ne rfl (mb_63 x))) (by decide +kernel) (by decide +kernel) (by decide +kernel) rfl ?_
      refine zw_lastoreS 5 92 f167_91 rfl (zg_ne rfl (zg_ne rfl (mb_81 x))) (by decide +kernel) (by decide +kernel) (by decide +kernel) rfl ?_
      refine zw_iinc 6 [(4, .int 6), (2, .long 0), (0, .ref 52), (1, .int 0)] 95 f167_92 rfl rfl (by decide +kernel) (by decide +kernel) rfl ?_
      refine zw_goto 42 f167_95 (by decide +kernel) ?_
      refine zw_iload 44 f167_42 rfl rfl ?_
      refine zw_bipush 8 46 f167_44 rfl (by decide +kernel) ?_
      refine zw_ic_ge_f 49 98 f167_46 (by decide +kernel) rfl (by decide +kernel) ?_
      refine zw_lload_n 50 f167_49 rfl rfl ?_
      refine zw_aload_n 51 f167_50 rfl rfl ?_
      refine zw_getfield 54 f167_51 rfl g167_52_12 (zg_eq (zg_eq (mb_52 x))) (zg_ne rfl (zg_ne rfl rfl)) ?_
      refine zw_iload 56 f167_54 rfl rfl ?_
      refine zw_baload 6 0 57 f167_56 rfl (zg_ne rfl (zg_ne rfl (mb_65 x))) (by decide +kernel) (by decide +kernel) (by decide +kernel) rfl ?_
      refine zw_if_eq_t 70 f167_57 (by decide +kernel) (by decide +kernel) ?_
      refine zw_lconst 0 71 f167_70 rfl (by decide +kernel) ?_
      refine zw_lor 0 72 f167_71 rfl (by decide +kernel) ?_
      refine zw_lstore_n [(2, .long 0), (4, .int 6), (0, .ref 52), (1, .int 0)] 73 f167_72 rfl (by decide +kernel) rfl ?_
      refine zw_aload_n 74 f167_73 rfl rfl ?_
      refine zw_getfield 77 f167_74 rfl g167_108_12 (zg_eq (zg_eq (mb_52 x))) (zg_ne rfl (zg_ne rfl rfl)) ?_
      refine zw_bipush 11 79 f167_77 rfl (by decide +kernel) ?_
      refine zw_iload_n 80 f167_79 rfl rfl ?_
      refine zw_imul 0 81 f167_80 rfl (by decide +kernel) ?_
      refine zw_iload 83 f167_81 rfl rfl ?_
      refine zw_iadd 6 84 f167_83 rfl (by decide +kernel) ?_
      refine zw_aload_n 85 f167_84 rfl rfl ?_
      refine zw_getfield 88 f167_85 rfl g167_44_12 (zg_eq (zg_eq (mb_52 x))) (zg_ne rfl (zg_ne rfl rfl)) ?_
      refine zw_iload 90 f167_88 rfl rfl ?_
      refine zw_laload 6 0 91 f167_90 rfl (zg_ne rfl (zg_ne rfl (mb_63 x))) (by decide +kernel) (by decide +kernel) (by decide +kernel) rfl ?_
      refine zw_lastoreS 6 92 f167_91 rfl (zg_ne rfl (zg_ne rfl (mb_81 x))) (by decide +kernel) (by decide +kernel) (by decide +kernel) rfl ?_
      refine zw_iinc 7 [(4, .int 7), (2, .long 0), (0, .ref 52), (1, .int 0)] 95 f167_92 rfl rfl (by decide +kernel) (by decide +kernel) rfl ?_
      refine zw_goto 42 f167_95 (by decide +kernel) ?_
      refine zw_iload 44 f167_42 rfl rfl ?_
      refine zw_bipush 8 46 f167_44 rfl (by decide +kernel) ?_
      refine zw_ic_ge_f 49 98 f167_46 (by decide +kernel) rfl (by decide +kernel) ?_
      refine zw_lload_n 50 f167_49 rfl rfl ?_
      refine zw_aload_n 51 f167_50 rfl rfl ?_
      refine zw_getfield 54 f167_51 rfl g167_52_12 (zg_eq (zg_eq (mb_52 x))) (zg_ne rfl (zg_ne rfl rfl)) ?_
      refine zw_iload 56 f167_54 rfl rfl ?_
      refine zw_baload 7 0 57 f167_56 rfl (zg_ne rfl (zg_ne rfl (mb_65 x))) (by decide +kernel) (by decide +kernel) (by decide +kernel) rfl ?_
      refine zw_if_eq_t 70 f167_57 (by decide +kernel) (by decide +kernel) ?_
      refine zw_lconst 0 71 f167_70 rfl (by decide +kernel) ?_
      refine zw_lor 0 72 f167_71 rfl (by decide +kernel) ?_
      refine zw_lstore_n [(2, .long 0), (4, .int 7), (0, .ref 52), (1, .int 0)] 73 f167_72 rfl (by decide +kernel) rfl ?_
      refine zw_aload_n 74 f167_73 rfl rfl ?_
      refine zw_getfield 77 f167_74 rfl g167_108_12 (zg_eq (zg_eq (mb_52 x))) (zg_ne rfl (zg_ne rfl rfl)) ?_
      refine zw_bipush 11 79 f167_77 rfl (by decide +kernel) ?_
      refine zw_iload_n 80 f167_79 rfl rfl ?_
      refine zw_imul 0 81 f167_80 rfl (by decide +kernel) ?_
      refine zw_iload 83 f167_81 rfl rfl ?_
      refine zw_iadd 7 84 f167_83 rfl (by decide +kernel) ?_
      refine zw_aload_n 85 f167_84 rfl rfl ?_
      refine zw_getfield 88 f167_85 rfl g167_44_12 (zg_eq (zg_eq (mb_52 x))) (zg_ne rfl (zg_ne rfl rfl)) ?_
      refine zw_iload 90 f167_88 rfl rfl ?_
      refine zw_laload 7 0 91 f167_90 rfl (zg_ne rfl (zg_ne rfl (mb_63 x))) (by decide +kernel) (by decide +kernel) (by decide +kernel) rfl ?_
      refine zw_lastoreS 7 92 f167_91 rfl (zg_ne rfl (zg_ne rfl (mb_81 x))) (by decide +kernel) (by decide +kernel) (by decide +kernel) rfl ?_
      refine zw_iinc 8 [(4, .int 8), (2, .long 0), (0, .ref 52), (1, .int 0)] 95 f167_92 rfl rfl (by decide +kernel) (by decide +kernel) rfl ?_
      refine zw_goto 42 f167_95 (by decide +kernel) ?_
      refine zw_iload 44 f167_42 rfl rfl ?_
      refine zw_bipush 8 46 f167_44 rfl (by decide +kernel) ?_
      refine zw_ic_ge_t 98 f167_46 (by decide +kernel) (by decide +kernel) ?_
      refine zw_aload_n 99 f167_98 rfl rfl ?_
      refine zw_getfield 102 f167_99 rfl g167_108_12 (zg_eq (zg_eq (mb_52 x))) (zg_ne rfl (zg_ne rfl rfl)) ?_
      refine zw_bipush 11 104 f167_102 rfl (by decide +kernel) ?_
      refine zw_iload_n 105 f167_104 rfl rfl ?_
      refine zw_imul 0 106 f167_105 rfl (by decide +kernel) ?_
      refine zw_bipush 8 108 f167_106 rfl (by decide +kernel) ?_
      refine zw_iadd 8 109 f167_108 rfl (by decide +kernel) ?_
      refine zw_aload_n 110 f167_109 rfl rfl ?_
      refine zw_getfield 113 f167_110 rfl g167_40_12 (zg_eq (zg_eq (mb_52 x))) (zg_ne rfl (zg_ne rfl rfl)) ?_
      refine zw_lastore 8 114 f167_113 rfl (zg_ne rfl (zg_ne rfl (mb_81 x))) (by decide +kernel) (by decide +kernel) (by decide +kernel) ?_
      refine zw_aload_n 115 f167_114 rfl rfl ?_
      refine zw_getfield 118 f167_115 rfl g167_108_12 (zg_ne rfl (zg_eq (zg_eq (mb_52 x)))) (zg_ne rfl (zg_ne rfl rfl)) ?_
      refine zw_bipush 11 120 f167_118 rfl (by decide +kernel) ?_
      refine zw_iload_n 121 f167_120 rfl rfl ?_
      refine zw_imul 0 122 f167_121 rfl (by decide +kernel) ?_
      refine zw_bipush 9 124 f167_122 rfl (by decide +kernel) ?_
      refine zw_iadd 9 125 f167_124 rfl (by decide +kernel) ?_
      refine zw_aload_n 126 f167_125 rfl rfl ?_
      refine zw_getfield 129 f167_126 rfl g167_172_12 (zg_ne rfl (zg_eq (zg_eq (mb_52 x)))) (zg_ne rfl (zg_ne rfl rfl)) ?_
      refine zw_lastoreS 9 130 f167_129 rfl (zg_eq (zg_ne rfl (zg_ne rfl (mb_81 x)))) (by decide +kernel) (by decide +kernel) (by decide +kernel) rfl ?_
      refine zw_aload_n 131 f167_130 rfl rfl ?_
      refine zw_getfield 134 f167_131 rfl g167_108_12 (zg_ne rfl (zg_eq (zg_eq (mb_52 x)))) (zg_ne rfl (zg_ne rfl rfl)) ?_
      refine zw_bipush 11 136 f167_134 rfl (by decide +kernel) ?_
      refine zw_iload_n 137 f167_136 rfl rfl ?_
      refine zw_imul 0 138 f167_137 rfl (by decide +kernel) ?_
      refine zw_bipush 10 140 f167_138 rfl (by decide +kernel) ?_
      refine zw_iadd 10 141 f167_140 rfl (by decide +kernel) ?_
      refine zw_lload_n 142 f167_141 rfl rfl ?_
      refine zw_lastoreS 10 143 f167_142 rfl (zg_eq (zg_ne rfl (zg_ne rfl (mb_81 x)))) (by decide +kernel) (by decide +kernel) (by decide +kernel) rfl ?_
      refine zw_vreturn f167_143 r167 u167 ⟨rfl, ?_⟩
      refine zw_iconst 1 6 f169_5 rfl (by decide +kernel) ?_
      refine zw_istore_n [(1, .int 1), (0, .ref 52)] 7 f169_6 rfl (by decide +kernel) rfl ?_
      refine zw_iload_n 8 f169_7 rfl rfl ?_
      refine zw_sipush 150 11 f169_8 rfl (by decide +kernel) ?_
      refine zw_ic_gt_f 14 83 f169_11 (by decide +kernel) rfl (by decide +kernel) ?_
      refine zw_aload_n 15 f169_14 rfl rfl ?_
      refine zw_ldc2_w 100000000 18 f169_15 rfl (by decide +kernel) ?_
      refine zw_virtual_i 21 0 0 [.ref 52, .long 100000000] [(0, .ref 52), (1, .long 100000000)] f169_18 rfl n169_235 k169_235_12 rfl (zg_ne rfl (zg_eq (zg_eq (mb_52 x)))) (by decide +kernel) (Nat.le_of_ble_eq_true rfl) rfl rfl (by decide +kernel) (by decide +kernel) rfl (Nat.le_of_ble_eq_true rfl) rfl ?_
      refine zw_aload_n 1 f151_0 rfl rfl ?_
      refine zw_virtual_v 4 0 0 [.ref 52] [(0, .ref 52)] f151_1 rfl n151_228 k151_228_12 rfl (zg_ne rfl (zg_eq (zg_eq (mb_52 x)))) (by decide +kernel) (Nat.le_of_ble_eq_true rfl) rfl rfl (by decide +kernel) (by decide +kernel) rfl (Nat.le_of_ble_eq_true rfl) rfl ?_
      refine zw_aload_n 1 f132_0 rfl rfl ?_
      refine zw_virtual_v 4 0 0 [.ref 52] [(0, .ref 52)] f132_1 rfl n132_151 k132_151_12 rfl (zg_ne rfl (zg_eq (zg_eq (mb_52 x)))) (by decide +kernel) (Nat.le_of_ble_eq_true rfl) rfl rfl (by decide +kernel) (by decide +kernel) rfl (Nat.le_of_ble_eq_true rfl) rfl ?_
      refine zw_aload_n 1 f129_0 rfl rfl ?_
      refine zw_iconst 0 2 f129_1 rfl (by decide +kernel) ?_
      refine zw_putfieldS 5 f129_2 rfl g129_127_12 (zg_ne rfl (zg_eq (zg_eq (mb_52 x)))) rfl (zg_ne rfl (zg_ne rfl rfl)) (by decide +kernel) ?_
      refine zw_aload_n 6 f129_5 rfl rfl ?_
      refine zw_iconst 0 7 f129_6 rfl (by decide +kernel) ?_
      refine zw_putfieldS 10 f129_7 rfl g129_124_12 (zg_ne rfl (zg_eq (zg_eq (mb_52 x)))) rfl (zg_ne rfl (zg_ne rfl rfl)) (by decide +kernel) ?_
      refine zw_iconst 0 11 f129_10 rfl (by decide +kernel) ?_
      refine zw_istore_n [(1, .int 0), (0, .ref 52)] 12 f129_11 rfl (by decide +kernel) rfl ?_
      refine zw_iload_n 13 f129_12 rfl rfl ?_
      refine zw_bipush 8 15 f129_13 rfl (by decide +kernel) ?_
      refine zw_ic_ge_f 18 45 f129_15 (by decide +kernel) rfl (by decide +kernel) ?_
      refine zw_aload_n 19 f129_18 rfl rfl ?_
      refine zw_getfield 22 f129_19 rfl g129_77_12 (zg_ne rfl (zg_eq (zg_eq (mb_52 x)))) (zg_ne rfl (zg_ne rfl rfl)) ?_
      refine zw_iload_n 23 f129_22 rfl rfl ?_
      refine zw_iconst 0 24 f129_23 rfl (by decide +kernel) ?_
      refine zw_iastoreS 0 25 f129_24 rfl (zg_ne rfl (zg_ne rfl (zg_ne rfl (mb_72 x)))) (by decide +kernel) (by decide +kernel) (by decide +kernel) rfl ?_
      refine zw_aload_n 26 f129_25 rfl rfl ?_
      refine zw_getfield 29 f129_26 rfl g129_80_12 (zg_ne rfl (zg_eq (zg_eq (mb_52 x)))) (zg_ne rfl (zg_ne rfl rfl)) ?_
      refine zw_iload_n 30 f129_29 rfl rfl ?_
      refine zw_iconst 0 31 f129_30 rfl (by decide +kernel) ?_
      refine zw_iastoreS 0 32 f129_31 rfl (zg_ne rfl (zg_ne rfl (zg_ne rfl (mb_73 x)))) (by decide +kernel) (by decide +kernel) (by decide +kernel) rfl ?_
      refine zw_aload_n 33 f129_32 rfl rfl ?_
      refine zw_getfield 36 f129_33 rfl g129_83_12 (zg_ne rfl (zg_eq (zg_eq (mb_52 x)))) (zg_ne rfl (zg_ne rfl rfl)) ?_
      refine zw_iload_n 37 f129_36 rfl rfl ?_
      refine zw_iconst 0 38 f129_37 rfl (by decide +kernel) ?_
      refine zw_iastoreS 0 39 f129_38 rfl (zg_ne rfl (zg_ne rfl (zg_ne rfl (mb_74 x)))) (by decide +kernel) (by decide +kernel) (by decide +kernel) rfl ?_
      refine zw_iinc 1 [(1, .int 1), (0, .ref 52)] 42 f129_39 rfl rfl (by decide +kernel) (by decide +kernel) rfl ?_
      refine zw_goto 12 f129_42 (by decide +kernel) ?_
      refine zw_iload_n 13 f129_12 rfl rfl ?_
      refine zw_bipush 8 15 f129_13 rfl (by decide +kernel) ?_
      refine zw_ic_ge_f 18 45 f129_15 (by decide +kernel) rfl (by decide +kernel) ?_
      refine zw_aload_n 19 f129_18 rfl rfl ?_
      refine zw_getfield 22 f129_19 rfl g129_77_12 (zg_ne rfl (zg_eq (zg_eq (mb_52 x)))) (zg_ne rfl (zg_ne rfl rfl)) ?_
      refine zw_iload_n 23 f129_22 rfl rfl ?_
      refine zw_iconst 0 24 f129_23 rfl (by decide +kernel) ?_
      refine zw_iastoreS 1 25 f129_24 rfl (zg_ne rfl (zg_ne rfl (zg_ne rfl (mb_72 x)))) (by decide +kernel) (by decide +kernel) (by decide +kernel) rfl ?_
      refine zw_aload_n 26 f129_25 rfl rfl ?_
      refine zw_getfield 29 f129_26 rfl g129_80_12 (zg_ne rfl (zg_eq (zg_eq (mb_52 x)))) (zg_ne rfl (zg_ne rfl rfl)) ?_
      refine zw_iload_n 30 f129_29 rfl rfl ?_
      refine zw_iconst 0 31 f129_30 rfl (by decide +kernel) ?_
      refine zw_iastoreS 1 32 f129_31 rfl (zg_ne rfl (zg_ne rfl (zg_ne rfl (mb_73 x)))) (by decide +kernel) (by decide +kernel) (by decide +kernel) rfl ?_
      refine zw_aload_n 33 f129_32 rfl rfl ?_
      refine zw_getfield 36 f129_33 rfl g129_83_12 (zg_ne rfl (zg_eq (zg_eq (mb_52 x)))) (zg_ne rfl (zg_ne rfl rfl)) ?_
      refine zw_iload_n 37 f129_36 rfl rfl ?_
      refine zw_iconst 0 38 f129_37 rfl (by decide +kernel) ?_
      refine zw_iastoreS 1 39 f129_38 rfl (zg_ne rfl (zg_ne rfl (zg_ne rfl (mb_74 x)))) (by decide +kernel) (by decide +kernel) (by decide +kernel) rfl ?_
      refine zw_iinc 2 [(1, .int 2), (0, .ref 52)] 42 f129_39 rfl rfl (by decide +kernel) (by decide +kernel) rfl ?_
      refine zw_goto 12 f129_42 (by decide +kernel) ?_
      refine zw_iload_n 13 f129_12 rfl rfl ?_
      refine zw_bipush 8 15 f129_13 rfl (by decide +kernel) ?_
      refine zw_ic_ge_f 18 45 f129_15 (by decide +kernel) rfl (by decide +kernel) ?_
      refine zw_aload_n 19 f129_18 rfl rfl ?_
      refine zw_getfield 22 f129_19 rfl g129_77_12 (zg_ne rfl (zg_eq (zg_eq (mb_52 x)))) (zg_ne rfl (zg_ne rfl rfl)) ?_
      refine zw_iload_n 23 f129_22 rfl rfl ?_
      refine zw_iconst 0 24 f129_23 rfl (by decide +kernel) ?_
      refine zw_iastoreS 2 25 f129_24 rfl (zg_ne rfl (zg_ne rfl (zg_ne rfl (mb_72 x)))) (by decide +kernel) (by decide +kernel) (by decide +kernel) rfl ?_
      refine zw_aload_n 26 f129_25 rfl rfl ?_
      refine zw_getfield 29 f129_26 rfl g129_80_12 (zg_ne rfl (zg_eq (zg_eq (mb_52 x)))) (zg_ne rfl (zg_ne rfl rfl)) ?_
      refine zw_iload_n 30 f129_29 rfl rfl ?_
      refine zw_iconst 0 31 f129_30 rfl (by decide +kernel) ?_
      refine zw_iastoreS 2 32 f129_31 rfl (zg_ne rfl (zg_ne rfl (zg_ne rfl (mb_73 x)))) (by decide +kernel) (by decide +kernel) (by decide +kernel) rfl ?_
      refine zw_aload_n 33 f129_32 rfl rfl ?_
      refine zw_getfield 36 f129_33 rfl g129_83_12 (zg_ne rfl (zg_eq (zg_eq (mb_52 x)))) (zg_ne rfl (zg_ne rfl rfl)) ?_
      refine zw_iload_n 37 f129_36 rfl rfl ?_
      refine zw_iconst 0 38 f129_37 rfl (by decide +kernel) ?_
      refine zw_iastoreS 2 39 f129_38 rfl (zg_ne rfl (zg_ne rfl (zg_ne rfl (mb_74 x)))) (by decide +kernel) (by decide +kernel) (by decide +kernel) rfl ?_
      refine zw_iinc 3 [(1, .int 3), (0, .ref 52)] 42 f129_39 rfl rfl (by decide +kernel) (by decide +kernel) rfl ?_
      refine zw_goto 12 f129_42 (by decide +kernel) ?_
      refine zw_iload_n 13 f129_12 rfl rfl ?_
      refine zw_bipush 8 15 f129_13 rfl (by decide +kernel) ?_
      refine zw_ic_ge_f 18 45 f129_15 (by decide +kernel) rfl (by decide +kernel) ?_
      refine zw_aload_n 19 f129_18 rfl rfl ?_
      refine zw_getfield 22 f129_19 rfl g129_77_12 (zg_ne rfl (zg_eq (zg_eq (mb_52 x)))) (zg_ne rfl (zg_ne rfl rfl)) ?_
      refine zw_iload_n 23 f129_22 rfl rfl ?_
      refine zw_iconst 0 24 f129_23 rfl (by decide +kernel) ?_
      refine zw_iastoreS 3 25 f129_24 rfl (zg_ne rfl (zg_ne rfl (zg_ne rfl (mb_72 x)))) (by decide +kernel) (by decide +kernel) (by decide +kernel) rfl ?_
      refine zw_aload_n 26 f129_25 rfl rfl ?_
      refine zw_getfield 29 f129_26 rfl g129_80_12 (zg_ne rfl (zg_eq (zg_eq (mb_52 x)))) (zg_ne rfl (zg_ne rfl rfl)) ?_
      refine zw_iload_n 30 f129_29 rfl rfl ?_
      refine zw_iconst 0 31 f129_30 rfl (by decide +kernel) ?_
      refine zw_iastoreS 3 32 f129_31 rfl (zg_ne rfl (zg_ne rfl (zg_ne rfl (mb_73 x)))) (by decide +kernel) (by decide +kernel) (by decide +kernel) rfl ?_
      refine zw_aload_n 33 f129_32 rfl rfl ?_
      refine zw_getfield 36 f129_33 rfl g129_83_12 (zg_ne rfl (zg_eq (zg_eq (mb_52 x)))) (zg_ne rfl (zg_ne rfl rfl)) ?_
      refine zw_iload_n 37 f129_36 rfl rfl ?_
      refine zw_iconst 0 38 f129_37 rfl (by decide +kernel) ?_
      refine zw_iastoreS 3 39 f129_38 rfl (zg_ne rfl (zg_ne rfl (zg_ne rfl (mb_74 x)))) (by decide +kernel) (by decide +kernel) (by decide +kernel) rfl ?_
      refine zw_iinc 4 [(1, .int 4), (0, .ref 52)] 42 f129_39 rfl rfl (by decide +kernel) (by decide +kernel) rfl ?_
      refine zw_goto 12 f129_42 (by decide +kernel) ?_
      refine zw_iload_n 13 f129_12 rfl rfl ?_
      refine zw_bipush 8 15 f129_13 rfl (by decide +kernel) ?_
      refine zw_ic_ge_f 18 45 f129_15 (by decide +kernel) rfl (by decide +kernel) ?_
      refine zw_aload_n 19 f129_18 rfl rfl ?_
      refine zw_getfield 22 f129_19 rfl g129_77_12 (zg_ne rfl (zg_eq (zg_eq (mb_52 x)))) (zg_ne rfl (zg_ne rfl rfl)) ?_
      refine zw_iload_n 23 f129_22 rfl rfl ?_
      refine zw_iconst 0 24 f129_23 rfl (by decide +kernel) ?_
      refine zw_iastoreS 4 25 f129_24 rfl (zg_ne rfl (zg_ne rfl (zg_ne rfl (mb_72 x)))) (by decide +kernel) (by decide +kernel) (by decide +kernel) rfl ?_
      refine zw_aload_n 26 f129_25 rfl rfl ?_
      refine zw_getfield 29 f129_26 rfl g129_80_12 (zg_ne rfl (zg_eq (zg_eq (mb_52 x)))) (zg_ne rfl (zg_ne rfl rfl)) ?_
      refine zw_iload_n 30 f129_29 rfl rfl ?_
      refine zw_iconst 0 31 f129_30 rfl (by decide +kernel) ?_
      refine zw_iastoreS 4 32 f129_31 rfl (zg_ne rfl (zg_ne rfl (zg_ne rfl (mb_73 x)))) (by decide +kernel) (by decide +kernel) (by decide +kernel) rfl ?_
      refine zw_aload_n 33 f129_32 rfl rfl ?_
      refine zw_getfield 36 f129_33 rfl g129_83_12 (zg_ne rfl (zg_eq (zg_eq (mb_52 x)))) (zg_ne rfl (zg_ne rfl rfl)) ?_
      refine zw_iload_n 37 f129_36 rfl rfl ?_
      refine zw_iconst 0 38 f129_37 rfl (by decide +kernel) ?_
      refine zw_iastoreS 4 39 f129_38 rfl (zg_ne rfl (zg_ne rfl (zg_ne rfl (mb_74 x)))) (by decide +kernel) (by decide +kernel) (by decide +kernel) rfl ?_
      refine zw_iinc 5 [(1, .int 5), (0, .ref 52)] 42 f129_39 rfl rfl (by decide +kernel) (by decide +kernel) rfl ?_
      refine zw_goto 12 f129_42 (by decide +kernel) ?_
      refine zw_iload_n 13 f129_12 rfl rfl ?_
      refine zw_bipush 8 15 f129_13 rfl (by decide +kernel) ?_
      refine zw_ic_ge_f 18 45 f129_15 (by decide +kernel) rfl (by decide +kernel) ?_
      refine zw_aload_n 19 f129_18 rfl rfl ?_
      refine zw_getfield 22 f129_19 rfl g129_77_12 (zg_ne rfl (zg_eq (zg_eq (mb_52 x)))) (zg_ne rfl (zg_ne rfl rfl)) ?_
      refine zw_iload_n 23 f129_22 rfl rfl ?_
      refine zw_iconst 0 24 f129_23 rfl (by decide +kernel) ?_
      refine zw_iastoreS 5 25 f129_24 rfl (zg_ne rfl (zg_ne rfl (zg_ne rfl (mb_72 x)))) (by decide +kernel) (by decide +kernel) (by decide +kernel) rfl ?_
      refine zw_aload_n 26 f129_25 rfl rfl ?_
      refine zw_getfield 29 f129_26 rfl g129_80_12 (zg_ne rfl (zg_eq (zg_eq (mb_52 x)))) (zg_ne rfl (zg_ne rfl rfl)) ?_
      refine zw_iload_n 30 f129_29 rfl rfl ?_
      refine zw_iconst 0 31 f129_30 rfl (by decide +kernel) ?_
      refine zw_iastoreS 5 32 f129_31 rfl (zg_ne rfl (zg_ne rfl (zg_ne rfl (mb_73 x)))) (by decide +kernel) (by decide +kernel) (by decide +kernel) rfl ?_
      refine zw_aload_n 33 f129_32 rfl rfl ?_
      refine zw_getfield 36 f129_33 rfl g129_83_12 (zg_ne rfl (zg_eq (zg_eq (mb_52 x)))) (zg_ne rfl (zg_ne rfl rfl)) ?_
      refine zw_iload_n 37 f129_36 rfl rfl ?_
      refine zw_iconst 0 38 f129_37 rfl (by decide +kernel) ?_
      refine zw_iastoreS 5 39 f129_38 rfl (zg_ne rfl (zg_ne rfl (zg_ne rfl (mb_74 x)))) (by decide +kernel) (by decide +kernel) (by decide +kernel) rfl ?_
      refine zw_iinc 6 [(1, .int 6), (0, .ref 52)] 42 f129_39 rfl rfl (by decide +kernel) (by decide +kernel) rfl ?_
      refine zw_goto 12 f129_42 (by decide +kernel) ?_
      refine zw_iload_n 13 f129_12 rfl rfl ?_
      refine zw_bipush 8 15 f129_13 rfl (by decide +kernel) ?_
      refine zw_ic_ge_f 18 45 f129_15 (by decide +kernel) rfl (by decide +kernel) ?_
      refine zw_aload_n 19 f129_18 rfl rfl ?_
      refine zw_getfield 22 f129_19 rfl g129_77_12 (zg_ne rfl (zg_eq (zg_eq (mb_52 x)))) (zg_ne rfl (zg_ne rfl rfl)) ?_
      refine zw_iload_n 23 f129_22 rfl rfl ?_
      refine zw_iconst 0 24 f129_23 rfl (by decide +kernel) ?_
      refine zw_iastoreS 6 25 f129_24 rfl (zg_ne rfl (zg_ne rfl (zg_ne rfl (mb_72 x)))) (by decide +kernel) (by decide +kernel) (by decide +kernel) rfl ?_
      refine zw_aload_n 26 f129_25 rfl rfl ?_
      refine zw_getfield 29 f129_26 rfl g129_80_12 (zg_ne rfl (zg_eq (zg_eq (mb_52 x)))) (zg_ne rfl (zg_ne rfl rfl)) ?_
      refine zw_iload_n 30 f129_29 rfl rfl ?_
      refine zw_iconst 0 31 f129_30 rfl (by decide +kernel) ?_
      refine zw_iastoreS 6 32 f129_31 rfl (zg_ne rfl (zg_ne rfl (zg_ne rfl (mb_73 x)))) (by decide +kernel) (by decide +kernel) (by decide +kernel) rfl ?_
      refine zw_aload_n 33 f129_32 rfl rfl ?_
      refine zw_getfield 36 f129_33 rfl g129_83_12 (zg_ne rfl (zg_eq (zg_eq (mb_52 x)))) (zg_ne rfl (zg_ne rfl rfl)) ?_
      refine zw_iload_n 37 f129_36 rfl rfl ?_
      refine zw_iconst 0 38 f129_37 rfl (by decide +kernel) ?_
      refine zw_iastoreS 6 39 f129_38 rfl (zg_ne rfl (zg_ne rfl (zg_ne rfl (mb_74 x)))) (by decide +kernel) (by decide +kernel) (by decide +kernel) rfl ?_
      refine zw_iinc 7 [(1, .int 7), (0, .ref 52)] 42 f129_39 rfl rfl (by decide +kernel) (by decide +kernel) rfl ?_
      refine zw_goto 12 f129_42 (by decide +kernel) ?_
      refine zw_iload_n 13 f129_12 rfl rfl ?_
      refine zw_bipush 8 15 f129_13 rfl (by decide +kernel) ?_
      refine zw_ic_ge_f 18 45 f129_15 (by decide +kernel) rfl (by decide +kernel) ?_
      refine zw_aload_n 19 f129_18 rfl rfl ?_
      refine zw_getfield 22 f129_19 rfl g129_77_12 (zg_ne rfl (zg_eq (zg_eq (mb_52 x)))) (zg_ne rfl (zg_ne rfl rfl)) ?_
      refine zw_iload_n 23 f129_22 rfl rfl ?_
      refine zw_iconst 0 24 f129_23 rfl (by decide +kernel) ?_
      refine zw_iastoreS 7 25 f129_24 rfl (zg_ne rfl (zg_ne rfl (zg_ne rfl (mb_72 x)))) (by decide +kernel) (by decide +kernel) (by decide +kernel) rfl ?_
      refine zw_aload_n 26 f129_25 rfl rfl ?_
      refine zw_getfield 29 f129_26 rfl g129_80_12 (zg_ne rfl (zg_eq (zg_eq (mb_52 x)))) (zg_ne rfl (zg_ne rfl rfl)) ?_
      refine zw_iload_n 30 f129_29 rfl rfl ?_
      refine zw_iconst 0 31 f129_30 rfl (by decide +kernel) ?_
      refine zw_iastoreS 7 32 f129_31 rfl (zg_ne rfl (zg_ne rfl (zg_ne rfl (mb_73 x)))) (by decide +kernel) (by decide +kernel) (by decide +kernel) rfl ?_
      refine zw_aload_n 33 f129_32 rfl rfl ?_
      refine zw_getfield 36 f129_33 rfl g129_83_12 (zg_ne rfl (zg_eq (zg_eq (mb_52 x)))) (zg_ne rfl (zg_ne rfl rfl)) ?_
      refine zw_iload_n 37 f129_36 rfl rfl ?_
      refine zw_iconst 0 38 f129_37 rfl (by decide +kernel) ?_
      refine zw_iastoreS 7 39 f129_38 rfl (zg_ne rfl (zg_ne rfl (zg_ne rfl (mb_74 x)))) (by decide +kernel) (by decide +kernel) (by decide +kernel) rfl ?_
      refine zw_iinc 8 [(1, .int 8), (0, .ref 52)] 42 f129_39 rfl rfl (by decide +kernel) (by decide +kernel) rfl ?_
      refine zw_goto 12 f129_42 (by decide +kernel) ?_
      refine zw_iload_n 13 f129_12 rfl rfl ?_
      refine zw_bipush 8 15 f129_13 rfl (by decide +kernel) ?_
      refine zw_ic_ge_t 45 f129_15 (by decide +kernel) (by decide +kernel) ?_
      refine zw_iconst 0 46 f129_45 rfl (by decide +kernel) ?_
      refine zw_istore_n [(1, .int 0), (0, .ref 52)] 47 f129_46 rfl (by decide +kernel) rfl ?_
      refine zw_iload_n 48 f129_47 rfl rfl ?_
      refine zw_aload_n 49 f129_48 rfl rfl ?_
      refine zw_getfield 52 f129_49 rfl g129_121_12 (zg_ne rfl (zg_eq (zg_eq (mb_52 x)))) (zg_ne rfl (zg_ne rfl rfl)) ?_
      refine zw_ic_ge_t 135 f129_52 (by decide +kernel) (by decide +kernel) ?_
      refine zw_iconst 0 136 f129_135 rfl (by decide +kernel) ?_
      refine zw_istore_n [(1, .int 0), (0, .ref 52)] 137 f129_136 rfl (by decide +kernel) rfl ?_
      refine zw_iload_n 138 f129_137 rfl rfl ?_
      refine zw_aload_n 139 f129_138 rfl rfl ?_
      refine zw_getfield 142 f129_139 rfl g129_114_12 (zg_ne rfl (zg_eq (zg_eq (mb_52 x)))) (zg_ne rfl (zg_ne rfl rfl)) ?_
      refine zw_ic_ge_t 156 f129_142 (by decide +kernel) (by decide +kernel) ?_
      refine zw_vreturn f129_156 r129 u129 ⟨rfl, ?_⟩
      refine zw_aload_n 5 f132_4 rfl rfl ?_
      refine zw_iconst 1 6 f132_5 rfl (by decide +kernel) ?_
      refine zw_putfield 9 f132_6 rfl g132_142_12 (zg_ne rfl (zg_eq (zg_eq (mb_52 x)))) rfl (zg_lt (zg_ne rfl (zg_ne rfl rfl))) (by decide +kernel) ?_
      refine zw_iconst 0 10 f132_9 rfl (by decide +kernel) ?_
      refine zw_istore_n [(1, .int 0), (0, .ref 52)] 11 f132_10 rfl (by decide +kernel) rfl ?_
      refine zw_iload_n 12 f132_11 rfl rfl ?_
      refine zw_aload_n 13 f132_12 rfl rfl ?_
      refine zw_getfield 16 f132_13 rfl g132_114_12 (zg_eq (zg_ne rfl (zg_eq (zg_eq (mb_52 x))))) (zg_ne rfl (zg_ne rfl (zg_ne rfl rfl))) ?_
      refine zw_ic_ge_t 179 f132_16 (by decide +kernel) (by decide +kernel) ?_
      refine zw_vreturn f132_179 r132 u132 ⟨rfl, ?_⟩
      refine zw_aload_n 5 f151_4 rfl rfl ?_
      refine zw_getfield 8 f151_5 rfl g151_142_12 (zg_eq (zg_ne rfl (zg_eq (zg_eq (mb_52 x))))) (zg_eq (zg_ne rfl (zg_ne rfl rfl))) ?_
      refine zw_if_ne_t 40 f151_8 (by decide +kernel) (by decide +kernel) ?_
      refine zw_iconst 0 41 f151_40 rfl (by decide +kernel) ?_
      refine zw_ireturn f151_41 r151 u151 ⟨_, rfl, ?_⟩
      refine zw_istore_n [(2, .int 0), (1, .int 1), (0, .ref 52)] 22 f169_21 rfl (by decide +kernel) rfl ?_
      refine zw_iload_n 23 f169_22 rfl rfl ?_
      refine zw_iconst 1 24 f169_23 rfl (by decide +kernel) ?_
      refine zw_ic_eq_f 27 38 f169_24 (by decide +kernel) rfl (by decide +kernel) ?_
      refine zw_iload_n 28 f169_27 rfl rfl ?_
      refine zw_if_ne_f 31 35 f169_28 (by decide +kernel) rfl (by decide +kernel) ?_
      refine zw_iconst 0 32 f169_31 rfl (by decide +kernel) ?_
      refine zw_goto 37 f169_32 (by decide +kernel) ?_
      refine zw_ireturn f169_37 r169 u169 ⟨_, rfl, ?_⟩
      refine zw_istore_n [(2, .int 0), (0, .ref 52), (1, .int a)] 20 f170_19 rfl (by decide +kernel) rfl ?_
      refine zw_aload_n 21 f170_20 rfl rfl ?_
      refine zw_virtual_v 24 0 0 [.ref 52] [(0, .ref 52)] f170_21 rfl n170_285 k170_285_12 rfl (zg_eq (zg_ne rfl (zg_eq (zg_eq (mb_52 x))))) (by decide +kernel) (Nat.le_of_ble_eq_true rfl) rfl rfl (by decide +kernel) (by decide +kernel) rfl (Nat.le_of_ble_eq_true rfl) rfl ?_
      refine zw_aload_n 1 f166_0 rfl rfl ?_
      refine zw_iconst 1 2 f166_1 rfl (by decide +kernel) ?_
      refine zw_putfield 5 f166_2 rfl g166_58_12 (zg_eq (zg_ne rfl (zg_eq (zg_eq (mb_52 x))))) rfl (zg_lt (zg_ne rfl (zg_ne rfl (zg_eq rfl)))) (by decide +kernel) ?_
      refine zw_aload_n 6 f166_5 rfl rfl ?_
      refine zw_aload_n 7 f166_6 rfl rfl ?_
      refine zw_getfield 10 f166_7 rfl g166_249_12 (zg_eq (zg_eq (zg_ne rfl (zg_eq (zg_eq (mb_52 x)))))) (zg_ne rfl (zg_ne rfl (zg_eq (zg_ne rfl rfl)))) ?_
      refine zw_putfieldS 13 f166_10 rfl g166_40_12 (zg_eq (zg_eq (zg_ne rfl (zg_eq (zg_eq (mb_52 x)))))) rfl (zg_ne rfl (zg_ne rfl (zg_ne rfl (zg_ne rfl rfl)))) (by decide +kernel) ?_
      refine zw_aload_n 14 f166_13 rfl rfl ?_
      refine zw_aload_n 15 f166_14 rfl rfl ?_
      refine zw_getfield 18 f166_15 rfl g166_252_12 (zg_eq (zg_eq (zg_ne rfl (zg_eq (zg_eq (mb_52 x)))))) (zg_ne rfl (zg_ne rfl (zg_ne rfl (zg_ne rfl rfl)))) ?_
      refine zw_putfieldS 21 f166_18 rfl g166_172_12 (zg_eq (zg_eq (zg_ne rfl (zg_eq (zg_eq (mb_52 x)))))) rfl (zg_ne rfl (zg_ne rfl (zg_ne rfl (zg_ne rfl rfl)))) (by decide +kernel) ?_
      refine zw_aload_n 22 f166_21 rfl rfl ?_
      refine zw_aload_n 23 f166_22 rfl rfl ?_
      refine zw_getfield 26 f166_23 rfl g166_255_12 (zg_eq (zg_eq (zg_ne rfl (zg_eq (zg_eq (mb_52 x)))))) (zg_ne rfl (zg_ne rfl (zg_ne rfl (zg_ne rfl rfl)))) ?_
      refine zw_putfieldS 29 f166_26 rfl g166_175_12 (zg_eq (zg_eq (zg_ne rfl (zg_eq (zg_eq (mb_52 x)))))) rfl (zg_ne rfl (zg_ne rfl (zg_ne rfl (zg_ne rfl rfl)))) (by decide +kernel) ?_
      refine zw_aload_n 30 f166_29 rfl rfl ?_
      refine zw_aload_n 31 f166_30 rfl rfl ?_
      refine zw_getfield 34 f166_31 rfl g166_258_12 (zg_eq (zg_eq (zg_ne rfl (zg_eq (zg_eq (mb_52 x)))))) (zg_ne rfl (zg_ne rfl (zg_ne rfl (zg_ne rfl rfl)))) ?_
      refine zw_putfieldS 37 f166_34 rfl g166_178_12 (zg_eq (zg_eq (zg_ne rfl (zg_eq (zg_eq (mb_52 x)))))) rfl (zg_ne rfl (zg_ne rfl (zg_ne rfl (zg_ne rfl rfl)))) (by decide +kernel) ?_
      refine zw_aload_n 38 f166_37 rfl rfl ?_
      refine zw_aload_n 39 f166_38 rfl rfl ?_
      refine zw_getfield 42 f166_39 rfl g166_261_12 (zg_eq (zg_eq (zg_ne rfl (zg_eq (zg_eq (mb_52 x)))))) (zg_ne rfl (zg_ne rfl (zg_ne rfl (zg_ne rfl rfl)))) ?_
      refine zw_putfieldS 45 f166_42 rfl g166_183_12 (zg_eq (zg_eq (zg_ne rfl (zg_eq (zg_eq (mb_52 x)))))) rfl (zg_ne rfl (zg_ne rfl (zg_ne rfl (zg_ne rfl rfl)))) (by decide +kernel) ?_
      refine zw_iconst 0 46 f166_45 rfl (by decide +kernel) ?_
      refine zw_istore_n [(1, .int 0), (0, .ref 52)] 47 f166_46 rfl (by decide +kernel) rfl ?_
      refine zw_iload_n 48 f166_47 rfl rfl ?_
      refine zw_bipush 8 50 f166_48 rfl (by decide +kernel) ?_
      refine zw_ic_ge_f 53 95 f166_50 (by decide +kernel) rfl (by decide +kernel) ?_
      refine zw_aload_n 54 f166_53 rfl rfl ?_
      refine zw_getfield 57 f166_54 rfl g166_44_12 (zg_eq (zg_eq (zg_ne rfl (zg_eq (zg_eq (mb_52 x)))))) (zg_ne rfl (zg_ne rfl (zg_ne rfl (zg_ne rfl rfl)))) ?_
      refine zw_iload_n 58 f166_57 rfl rfl ?_
      refine zw_aload_n 59 f166_58 rfl rfl ?_
      refine zw_getfield 62 f166_59 rfl g166_96_12 (zg_eq (zg_eq (zg_ne rfl (zg_eq (zg_eq (mb_52 x)))))) (zg_ne rfl (zg_ne rfl (zg_ne rfl (zg_ne rfl rfl)))) ?_
      refine zw_iload_n 63 f166_62 rfl rfl ?_
      refine zw_laload 0 0 64 f166_63 rfl (zg_ne rfl (zg_ne rfl (zg_ne rfl (zg_ne rfl (zg_ne rfl (mb_77 x)))))) (by decide +kernel) (by decide +kernel) (by decide +kernel) rfl ?_
      refine zw_lastoreS 0 65 f166_64 rfl (zg_ne rfl (zg_ne rfl (zg_ne rfl (zg_ne rfl (zg_ne rfl (mb_63 x)))))) (by decide +kernel) (by decide +kernel) (by decide +kernel) rfl ?_
      refine zw_aload_n 66 f166_65 rfl rfl ?_
      refine zw_getfield 69 f166_66 rfl g166_52_12 (zg_eq (zg_eq (zg_ne rfl (zg_eq (zg_eq (mb_52 x)))))) (zg_ne rfl (zg_ne rfl (zg_ne rfl (zg_ne rfl rfl)))) ?_
      refine zw_iload_n 70 f166_69 rfl rfl ?_
      refine zw_aload_n 71 f166_70 rfl rfl ?_
      refine zw_getfield 74 f166_71 rfl g166_102_12 (zg_eq (zg_eq (zg_ne rfl (zg_eq (zg_eq (mb_52 x)))))) (zg_ne rfl (zg_ne rfl (zg_ne rfl (zg_ne rfl rfl)))) ?_
      refine zw_iload_n 75 f166_74 rfl rfl ?_
      refine zw_baload 0 0 76 f166_75 rfl (zg_ne rfl (zg_ne rfl (zg_ne rfl (zg_ne rfl (zg_ne rfl (mb_79 x)))))) (by decide +kernel) (by decide +kernel) (by decide +kernel) rfl ?_
      refine zw_bastoreS 0 77 f166_76 rfl (zg_ne rfl (zg_ne rfl (zg_ne rfl (zg_ne rfl (zg_ne rfl (mb_65 x)))))) (by decide +kernel) (by decide +kernel) (by decide +kernel) (by decide +kernel) ?_
      refine zw_aload_n 78 f166_77 rfl rfl ?_
      refine zw_getfield 81 f166_78 rfl g166_55_12 (zg_eq (zg_eq (zg_ne rfl (zg_eq (zg_eq (mb_52 x)))))) (zg_ne rfl (zg_ne rfl (zg_ne rfl (zg_ne rfl rfl)))) ?_
      refine zw_iload_n 82 f166_81 rfl rfl ?_
      refine zw_aload_n 83 f166_82 rfl rfl ?_
      refine zw_getfield 86 f166_83 rfl g166_105_12 (zg_eq (zg_eq (zg_ne rfl (zg_eq (zg_eq (mb_52 x)))))) (zg_ne rfl (zg_ne rfl (zg_ne rfl (zg_ne rfl rfl)))) ?_
      refine zw_iload_n 87 f166_86 rfl rfl ?_
      refine zw_iaload 0 0 88 f166_87 rfl (zg_ne rfl (zg_ne rfl (zg_ne rfl (zg_ne rfl (zg_ne rfl (mb_80 x)))))) (by decide +kernel) (by decide +kernel) (by decide +kernel) rfl ?_
      refine zw_iastoreS 0 89 f166_88 rfl (zg_ne rfl (zg_ne rfl (zg_ne rfl (zg_ne rfl (zg_ne rfl (mb_66 x)))))) (by decide +kernel) (by decide +kernel) (by decide +kernel) rfl ?_
      refine zw_iinc 1 [(1, .int 1), (0, .ref 52)] 92 f166_89 rfl rfl (by decide +kernel) (by decide +kernel) rfl ?_
      refine zw_goto 47 f166_92 (by decide +kernel) ?_
      refine zw_iload_n 48 f166_47 rfl rfl ?_
      refine zw_bipush 8 50 f166_48 rfl (by decide +kernel) ?_
      refine zw_ic_ge_f 53 95 f166_50 (by decide +kernel) rfl (by decide +kernel) ?_
      refine zw_aload_n 54 f166_53 rfl rfl ?_
      refine zw_getfield 57 f166_54 rfl g166_44_12 (zg_eq (zg_eq (zg_ne rfl (zg_eq (zg_eq (mb_52 x)))))) (zg_ne rfl (zg_ne rfl (zg_ne rfl (zg_ne rfl rfl)))) ?_
      refine zw_iload_n 58 f166_57 rfl rfl ?_
      refine zw_aload_n 59 f166_58 rfl rfl ?_
      refine zw_getfield 62 f166_59 rfl g166_96_12 (zg_eq (zg_eq (zg_ne rfl (zg_eq (zg_eq (mb_52 x)))))) (zg_ne rfl (zg_ne rfl (zg_ne rfl (zg_ne rfl rfl)))) ?_
      refine zw_iload_n 63 f166_62 rfl rfl ?_
      refine zw_laload 1 0 64 f166_63 rfl (zg_ne rfl (zg_ne rfl (zg_ne rfl (zg_ne rfl (zg_ne rfl (mb_77 x)))))) (by decide +kernel) (by decide +kernel) (by decide +kernel) rfl ?_
      refine zw_lastoreS 1 65 f166_64 rfl (zg_ne rfl (zg_ne rfl (zg_ne rfl (zg_ne rfl (zg_ne rfl (mb_63 x)))))) (by decide +kernel) (by decide +kernel) (by decide +kernel) rfl ?_
      refine zw_aload_n 66 f166_65 rfl rfl ?_
      refine zw_getfield 69 f166_66 rfl g166_52_12 (zg_eq (zg_eq (zg_ne rfl (zg_eq (zg_eq (mb_52 x)))))) (zg_ne rfl (zg_ne rfl (zg_ne rfl (zg_ne rfl rfl)))) ?_
      refine zw_iload_n 70 f166_69 rfl rfl ?_
      refine zw_aload_n 71 f166_70 rfl rfl ?_
      refine zw_getfield 74 f166_71 rfl g166_102_12 (zg_eq (zg_eq (zg_ne rfl (zg_eq (zg_eq (mb_52 x)))))) (zg_ne rfl (zg_ne rfl (zg_ne rfl (zg_ne rfl rfl)))) ?_
      refine zw_iload_n 75 f166_74 rfl rfl ?_
      refine zw_baload 1 0 76 f166_75 rfl (zg_ne rfl (zg_ne rfl (zg_ne rfl (zg_ne rfl (zg_ne rfl (mb_79 x)))))) (by decide +kernel) (by decide +kernel) (by decide +kernel) rfl ?_
      refine zw_bastoreS 1 77 f166_76 rfl (zg_ne rfl (zg_ne rfl (zg_ne rfl (zg_ne rfl (zg_ne rfl (mb_65 x)))))) (by decide +kernel) (by decide +kernel) (by decide +kernel) (by decide +kernel) ?_
      refine zw_aload_n 78 f166_77 rfl rfl ?_
      refine zw_getfield 81 f166_78 rfl g166_55_12 (zg_eq (zg_eq (zg_ne rfl (zg_eq (zg_eq (mb_52 x)))))) (zg_ne rfl (zg_ne rfl (zg_ne rfl (zg_ne rfl rfl)))) ?_
      refine zw_iload_n 82 f166_81 rfl rfl ?_
      refine zw_aload_n 83 f166_82 rfl rfl ?_
      refine zw_getfield 86 f166_83 rfl g166_105_12 (zg_eq (zg_eq (zg_ne rfl (zg_eq (zg_eq (mb_52 x)))))) (zg_ne rfl (zg_ne rfl (zg_ne rfl (zg_ne rfl rfl)))) ?_
      refine zw_iload_n 87 f166_86 rfl rfl ?_
      refine zw_iaload 1 0 88 f166_87 rfl (zg_ne rfl (zg_ne rfl (zg_ne rfl (zg_ne rfl (zg_ne rfl (mb_80 x)))))) (by decide +kernel) (by decide +kernel) (by decide +kernel) rfl ?_
      refine zw_iastoreS 1 89 f166_88 rfl (zg_ne rfl (zg_ne rfl (zg_ne rfl (zg_ne rfl (zg_ne rfl (mb_66 x)))))) (by decide +kernel) (by decide +kernel) (by decide +kernel) rfl ?_
      refine zw_iinc 2 [(1, .int 2), (0, .ref 52)] 92 f166_89 rfl rfl (by decide +kernel) (by decide +kernel) rfl ?_
      refine zw_goto 47 f166_92 (by decide +kernel) ?_
      refine zw_iload_n 48 f166_47 rfl rfl ?_
      refine zw_bipush 8 50 f166_48 rfl (by decide +kernel) ?_
      refine zw_ic_ge_f 53 95 f166_50 (by decide +kernel) rfl (by decide +kernel) ?_
      refine zw_aload_n 54 f166_53 rfl rfl ?_
      refine zw_getfield 57 f166_54 rfl g166_44_12 (zg_eq (zg_eq (zg_ne rfl (zg_eq (zg_eq (mb_52 x)))))) (zg_ne rfl (zg_ne rfl (zg_ne rfl (zg_ne rfl rfl)))) ?_
      refine zw_iload_n 58 f166_57 rfl rfl ?_
      refine zw_aload_n 59 f166_58 rfl rfl ?_
      refine zw_getfield 62 f166_59 rfl g166_96_12 (zg_eq (zg_eq (zg_ne rfl (zg_eq (zg_eq (mb_52 x)))))) (zg_ne rfl (zg_ne rfl (zg_ne rfl (zg_ne rfl rfl)))) ?_
      refine zw_iload_n 63 f166_62 rfl rfl ?_
      refine zw_laload 2 0 64 f166_63 rfl (zg_ne rfl (zg_ne rfl (zg_ne rfl (zg_ne rfl (zg_ne rfl (mb_77 x)))))) (by decide +kernel) (by decide +kernel) (by decide +kernel) rfl ?_
      refine zw_lastoreS 2 65 f166_64 rfl (zg_ne rfl (zg_ne rfl (zg_ne rfl (zg_ne rfl (zg_ne rfl (mb_63 x)))))) (by decide +kernel) (by decide +kernel) (by decide +kernel) rfl ?_
      refine zw_aload_n 66 f166_65 rfl rfl ?_
      refine zw_getfield 69 f166_66 rfl g166_52_12 (zg_eq (zg_eq (zg_ne rfl (zg_eq (zg_eq (mb_52 x)))))) (zg_ne rfl (zg_ne rfl (zg_ne rfl (zg_ne rfl rfl)))) ?_
      refine zw_iload_n 70 f166_69 rfl rfl ?_
      refine zw_aload_n 71 f166_70 rfl rfl ?_
      refine zw_getfield 74 f166_71 rfl g166_102_12 (zg_eq (zg_eq (zg_ne rfl (zg_eq (zg_eq (mb_52 x)))))) (zg_ne rfl (zg_ne rfl (zg_ne rfl (zg_ne rfl rfl)))) ?_
      refine zw_iload_n 75 f166_74 rfl rfl ?_
      refine zw_baload 2 0 76 f166_75 rfl (zg_ne rfl (zg_ne rfl (zg_ne rfl (zg_ne rfl (zg_ne rfl (mb_79 x)))))) (by decide +kernel) (by decide +kernel) (by decide +kernel) rfl ?_
      refine zw_bastoreS 2 77 f166_76 rfl (zg_ne rfl (zg_ne rfl (zg_ne rfl (zg_ne rfl (zg_ne rfl (mb_65 x)))))) (by decide +kernel) (by decide +kernel) (by decide +kernel) (by decide +kernel) ?_
      refine zw_aload_n 78 f166_77 rfl rfl ?_
      refine zw_getfield 81 f166_78 rfl g166_55_12 (zg_eq (zg_eq (zg_ne rfl (zg_eq (zg_eq (mb_52 x)))))) (zg_ne rfl (zg_ne rfl (zg_ne rfl (zg_ne rfl rfl)))) ?_
      refine zw_iload_n 82 f166_81 rfl rfl ?_
      refine zw_aload_n 83 f166_82 rfl rfl ?_
      refine zw_getfield 86 f166_83 rfl g166_105_12 (zg_eq (zg_eq (zg_ne rfl (zg_eq (zg_eq (mb_52 x)))))) (zg_ne rfl (zg_ne rfl (zg_ne rfl (zg_ne rfl rfl)))) ?_
      refine zw_iload_n 87 f166_86 rfl rfl ?_
      refine zw_iaload 2 0 88 f166_87 rfl (zg_ne rfl (zg_ne rfl (zg_ne rfl (zg_ne rfl (zg_ne rfl (mb_80 x)))))) (by decide +kernel) (by decide +kernel) (by decide +kernel) rfl ?_
      refine zw_iastoreS 2 89 f166_88 rfl (zg_ne rfl (zg_ne rfl (zg_ne rfl (zg_ne rfl (zg_ne rfl (mb_66 x)))))) (by decide +kernel) (by decide +kernel) (by decide +kernel) rfl ?_
      refine zw_iinc 3 [(1, .int 3), (0, .ref 52)] 92 f166_89 rfl rfl (by decide +kernel) (by decide +kernel) rfl ?_
      refine zw_goto 47 f166_92 (by decide +kernel) ?_
      refine zw_iload_n 48 f166_47 rfl rfl ?_
      refine zw_bipush 8 50 f166_48 rfl (by decide +kernel) ?_
      refine zw_ic_ge_f 53 95 f166_50 (by decide +kernel) rfl (by decide +kernel) ?_
      refine zw_aload_n 54 f166_53 rfl rfl ?_
      refine zw_getfield 57 f166_54 rfl g166_44_12 (zg_eq (zg_eq (zg_ne rfl (zg_eq (zg_eq (mb_52 x)))))) (zg_ne rfl (zg_ne rfl (zg_ne rfl (zg_ne rfl rfl)))) ?_
      refine zw_iload_n 58 f166_57 rfl rfl ?_
      refine zw_aload_n 59 f166_58 rfl rfl ?_
      refine zw_getfield 62 f166_59 rfl g166_96_12 (zg_eq (zg_eq (zg_ne rfl (zg_eq (zg_eq (mb_52 x)))))) (zg_ne rfl (zg_ne rfl (zg_ne rfl (zg_ne rfl rfl)))) ?_
      refine zw_iload_n 63 f166_62 rfl rfl ?_
      refine zw_laload 3 0 64 f166_63 rfl (zg_ne rfl (zg_ne rfl (zg_ne rfl (zg_ne rfl (zg_ne rfl (mb_77 x)))))) (by decide +kernel) (by decide +kernel) (by decide +kernel) rfl ?_
      refine zw_lastoreS 3 65 f166_64 rfl (zg_ne rfl (zg_ne rfl (zg_ne rfl (zg_ne rfl (zg_ne rfl (mb_63 x)))))) (by decide +kernel) (by decide +kernel) (by decide +kernel) rfl ?_
      refine zw_aload_n 66 f166_65 rfl rfl ?_
      refine zw_getfield 69 f166_66 rfl g166_52_12 (zg_eq (zg_eq (zg_ne rfl (zg_eq (zg_eq (mb_52 x)))))) (zg_ne rfl (zg_ne rfl (zg_ne rfl (zg_ne rfl rfl)))) ?_
      refine zw_iload_n 70 f166_69 rfl rfl ?_
      refine zw_aload_n 71 f166_70 rfl rfl ?_
      refine zw_getfield 74 f166_71 rfl g166_102_12 (zg_eq (zg_eq (zg_ne rfl (zg_eq (zg_eq (mb_52 x)))))) (zg_ne rfl (zg_ne rfl (zg_ne rfl (zg_ne rfl rfl)))) ?_
      refine zw_iload_n 75 f166_74 rfl rfl ?_
      refine zw_baload 3 0 76 f166_75 rfl (zg_ne rfl (zg_ne rfl (zg_ne rfl (zg_ne rfl (zg_ne rfl (mb_79 x)))))) (by decide +kernel) (by decide +kernel) (by decide +kernel) rfl ?_
      refine zw_bastoreS 3 77 f166_76 rfl (zg_ne rfl (zg_ne rfl (zg_ne rfl (zg_ne rfl (zg_ne rfl (mb_65 x)))))) (by decide +kernel) (by decide +kernel) (by decide +kernel) (by decide +kernel) ?_
      refine zw_aload_n 78 f166_77 rfl rfl ?_
      refine zw_getfield 81 f166_78 rfl g166_55_12 (zg_eq (zg_eq (zg_ne rfl (zg_eq (zg_eq (mb_52 x)))))) (zg_ne rfl (zg_ne rfl (zg_ne rfl (zg_ne rfl rfl)))) ?_
      refine zw_iload_n 82 f166_81 rfl rfl ?_
      refine zw_aload_n 83 f166_82 rfl rfl ?_
      refine zw_getfield 86 f166_83 rfl g166_105_12 (zg_eq (zg_eq (zg_ne rfl (zg_eq (zg_eq (mb_52 x)))))) (zg_ne rfl (zg_ne rfl (zg_ne rfl (zg_ne rfl rfl)))) ?_
      refine zw_iload_n 87 f166_86 rfl rfl ?_
      refine zw_iaload 3 0 88 f166_87 rfl (zg_ne rfl (zg_ne rfl (zg_ne rfl (zg_ne rfl (zg_ne rfl (mb_80 x)))))) (by decide +kernel) (by decide +kernel) (by decide +kernel) rfl ?_
      refine zw_iastoreS 3 89 f166_88 rfl (zg_ne rfl (zg_ne rfl (zg_ne rfl (zg_ne rfl (zg_ne rfl (mb_66 x)))))) (by decide +kernel) (by decide +kernel) (by decide +kernel) rfl ?_
      refine zw_iinc 4 [(1, .int 4), (0, .ref 52)] 92 f166_89 rfl rfl (by decide +kernel) (by decide +kernel) rfl ?_
      refine zw_goto 47 f166_92 (by decide +kernel) ?_
      refine zw_iload_n 48 f166_47 rfl rfl ?_
      refine zw_bipush 8 50 f166_48 rfl (by decide +kernel) ?_
      refine zw_ic_ge_f 53 95 f166_50 (by decide +kernel) rfl (by decide +kernel) ?_
      refine zw_aload_n 54 f166_53 rfl rfl ?_
      refine zw_getfield 57 f166_54 rfl g166_44_12 (zg_eq (zg_eq (zg_ne rfl (zg_eq (zg_eq (mb_52 x)))))) (zg_ne rfl (zg_ne rfl (zg_ne rfl (zg_ne rfl rfl)))) ?_
      refine zw_iload_n 58 f166_57 rfl rfl ?_
      refine zw_aload_n 59 f166_58 rfl rfl ?_
      refine zw_getfield 62 f166_59 rfl g166_96_12 (zg_eq (zg_eq (zg_ne rfl (zg_eq (zg_eq (mb_52 x)))))) (zg_ne rfl (zg_ne rfl (zg_ne rfl (zg_ne rfl rfl)))) ?_
      refine zw_iload_n 63 f166_62 rfl rfl ?_
      refine zw_laload 4 0 64 f166_63 rfl (zg_ne rfl (zg_ne rfl (zg_ne rfl (zg_ne rfl (zg_ne rfl (mb_77 x)))))) (by decide +kernel) (by decide +kernel) (by decide +kernel) rfl ?_
      refine zw_lastoreS 4 65 f166_64 rfl (zg_ne rfl (zg_ne rfl (zg_ne rfl (zg_ne rfl (zg_ne rfl (mb_63 x)))))) (by decide +kernel) (by decide +kernel) (by decide +kernel) rfl ?_
      refine zw_aload_n 66 f166_65 rfl rfl ?_
      refine zw_getfield 69 f166_66 rfl g166_52_12 (zg_eq (zg_eq (zg_ne rfl (zg_eq (zg_eq (mb_52 x)))))) (zg_ne rfl (zg_ne rfl (zg_ne rfl (zg_ne rfl rfl)))) ?_
      refine zw_iload_n 70 f166_69 rfl rfl ?_
      refine zw_aload_n 71 f166_70 rfl rfl ?_
      refine zw_getfield 74 f166_71 rfl g166_102_12 (zg_eq (zg_eq (zg_ne rfl (zg_eq (zg_eq (mb_52 x)))))) (zg_ne rfl (zg_ne rfl (zg_ne rfl (zg_ne rfl rfl)))) ?_
      refine zw_iload_n 75 f166_74 rfl rfl ?_
      refine zw_baload 4 0 76 f166_75 rfl (zg_ne rfl (zg_ne rfl (zg_ne rfl (zg_ne rfl (zg_ne rfl (mb_79 x)))))) (by decide +kernel) (by decide +kernel) (by decide +kernel) rfl ?_
      refine zw_bastoreS 4 77 f166_76 rfl (zg_ne rfl (zg_ne rfl (zg_ne rfl (zg_ne rfl (zg_ne rfl (mb_65 x)))))) (by decide +kernel) (by decide +kernel) (by decide +kernel) (by decide +kernel) ?_
      refine zw_aload_n 78 f166_77 rfl rfl ?_
      refine zw_getfield 81 f166_78 rfl g166_55_12 (zg_eq (zg_eq (zg_ne rfl (zg_eq (zg_eq (mb_52 x)))))) (zg_ne rfl (zg_ne rfl (zg_ne rfl (zg_ne rfl rfl)))) ?_
      refine zw_iload_n 82 f166_81 rfl rfl ?_
      refine zw_aload_n 83 f166_82 rfl rfl ?_
      refine zw_getfield 86 f166_83 rfl g166_105_12 (zg_eq (zg_eq (zg_ne rfl (zg_eq (zg_eq (mb_52 x)))))) (zg_ne rfl (zg_ne rfl (zg_ne rfl (zg_ne rfl rfl)))) ?_
      refine zw_iload_n 87 f166_86 rfl rfl ?_
      refine zw_iaload 4 0 88 f166_87 rfl (zg_ne rfl (zg_ne rfl (zg_ne rfl (zg_ne rfl (zg_ne rfl (mb_80 x)))))) (by decide +kernel) (by decide +kernel) (by decide +kernel) rfl ?_
      refine zw_iastoreS 4 89 f166_88 rfl (zg_ne rfl (zg_ne rfl (zg_ne rfl (zg_ne rfl (zg_ne rfl (mb_66 x)))))) (by decide +kernel) (by decide +kernel) (by decide +kernel) rfl ?_
      refine zw_iinc 5 [(1, .int 5), (0, .ref 52)] 92 f166_89 rfl rfl (by decide +kernel) (by decide +kernel) rfl ?_
      refine zw_goto 47 f166_92 (by decide +kernel) ?_
      refine zw_iload_n 48 f166_47 rfl rfl ?_
      refine zw_bipush 8 50 f166_48 rfl (by decide +kernel) ?_
      refine zw_ic_ge_f 53 95 f166_50 (by decide +kernel) rfl (by decide +kernel) ?_
      refine zw_aload_n 54 f166_53 rfl rfl ?_
      refine zw_getfield 57 f166_54 rfl g166_44_12 (zg_eq (zg_eq (zg_ne rfl (zg_eq (zg_eq (mb_52 x)))))) (zg_ne rfl (zg_ne rfl (zg_ne rfl (zg_ne rfl rfl)))) ?_
      refine zw_iload_n 58 f166_57 rfl rfl ?_
      refine zw_aload_n 59 f166_58 rfl rfl ?_
      refine zw_getfield 62 f166_59 rfl g166_96_12 (zg_eq (zg_eq (zg_ne rfl (zg_eq (zg_eq (mb_52 x)))))) (zg_ne rfl (zg_ne rfl (zg_ne rfl (zg_ne rfl rfl)))) ?_
      refine zw_iload_n 63 f166_62 rfl rfl ?_
      refine zw_laload 5 0 64 f166_63 rfl (zg_ne rfl (zg_ne rfl (zg_ne rfl (zg_ne rfl (zg_ne rfl (mb_77 x)))))) (by decide +kernel) (by decide +kernel) (by decide +kernel) rfl ?_
      refine zw_lastoreS 5 65 f166_64 rfl (zg_ne rfl (zg_ne rfl (zg_ne rfl (zg_ne rfl (zg_ne rfl (mb_63 x)))))) (by decide +kernel) (by decide +kernel) (by decide +kernel) rfl ?_
      refine zw_aload_n 66 f166_65 rfl rfl ?_
      refine zw_getfield 69 f166_66 rfl g166_52_12 (zg_eq (zg_eq (zg_ne rfl (zg_eq (zg_eq (mb_52 x)))))) (zg_ne rfl (zg_ne rfl (zg_ne rfl (zg_ne rfl rfl)))) ?_
      refine zw_iload_n 70 f166_69 rfl rfl ?_
      refine zw_aload_n 71 f166_70 rfl rfl ?_
      refine zw_getfield 74 f166_71 rfl g166_102_12 (zg_eq (zg_eq (zg_ne rfl (zg_eq (zg_eq (mb_52 x)))))) (zg_ne rfl (zg_ne rfl (zg_ne rfl (zg_ne rfl rfl)))) ?_
      refine zw_iload_n 75 f166_74 rfl rfl ?_
      refine zw_baload 5 0 76 f166_75 rfl (zg_ne rfl (zg_ne rfl (zg_ne rfl (zg_ne rfl (zg_ne rfl (mb_79 x)))))) (by decide +kernel) (by decide +kernel) (by decide +kernel) rfl ?_
      refine zw_bastoreS 5 77 f166_76 rfl (zg_ne rfl (zg_ne rfl (zg_ne rfl (zg_ne rfl (zg_ne rfl (mb_65 x)))))) (by decide +kernel) (by decide +kernel) (by decide +kernel) (by decide +kernel) ?_
      refine zw_aload_n 78 f166_77 rfl rfl ?_
      refine zw_getfield 81 f166_78 rfl g166_55_12 (zg_eq (zg_eq (zg_ne rfl (zg_eq (zg_eq (mb_52 x)))))) (zg_ne rfl (zg_ne rfl (zg_ne rfl (zg_ne rfl rfl)))) ?_
      refine zw_iload_n 82 f166_81 rfl rfl ?_
      refine zw_aload_n 83 f166_82 rfl rfl ?_
      refine zw_getfield 86 f166_83 rfl g166_105_12 (zg_eq (zg_eq (zg_ne rfl (zg_eq (zg_eq (mb_52 x)))))) (zg_ne rfl (zg_ne rfl (zg_ne rfl (zg_ne rfl rfl)))) ?_
      refine zw_iload_n 87 f166_86 rfl rfl ?_
      refine zw_iaload 5 0 88 f166_87 rfl (zg_ne rfl (zg_ne rfl (zg_ne rfl (zg_ne rfl (zg_ne rfl (mb_80 x)))))) (by decide +kernel) (by decide +kernel) (by decide +kernel) rfl ?_
      refine zw_iastoreS 5 89 f166_88 rfl (zg_ne rfl (zg_ne rfl (zg_ne rfl (zg_ne rfl (zg_ne rfl (mb_66 x)))))) (by decide +kernel) (by decide +kernel) (by decide +kernel) rfl ?_
      refine zw_iinc 6 [(1, .int 6), (0, .ref 52)] 92 f166_89 rfl rfl (by decide +kernel) (by decide +kernel) rfl ?_
      refine zw_goto 47 f166_92 (by decide +kernel) ?_
      refine zw_iload_n 48 f166_47 rfl rfl ?_
      refine zw_bipush 8 50 f166_48 rfl (by decide +kernel) ?_
      refine zw_ic_ge_f 53 95 f166_50 (by decide +kernel) rfl (by decide +kernel) ?_
      refine zw_aload_n 54 f166_53 rfl rfl ?_
      refine zw_getfield 57 f166_54 rfl g166_44_12 (zg_eq (zg_eq (zg_ne rfl (zg_eq (zg_eq (mb_52 x)))))) (zg_ne rfl (zg_ne rfl (zg_ne rfl (zg_ne rfl rfl)))) ?_
      refine zw_iload_n 58 f166_57 rfl rfl ?_
      refine zw_aload_n 59 f166_58 rfl rfl ?_
      refine zw_getfield 62 f166_59 rfl g166_96_12 (zg_eq (zg_eq (zg_ne rfl (zg_eq (zg_eq (mb_52 x)))))) (zg_ne rfl (zg_ne rfl (zg_ne rfl (zg_ne rfl rfl)))) ?_
      refine zw_iload_n 63 f166_62 rfl rfl ?_
      refine zw_laload 6 0 64 f166_63 rfl (zg_ne rfl (zg_ne rfl (zg_ne rfl (zg_ne rfl (zg_ne rfl (mb_77 x)))))) (by decide +kernel) (by decide +kernel) (by decide +kernel) rfl ?_
      refine zw_lastoreS 6 65 f166_64 rfl (zg_ne rfl (zg_ne rfl (zg_ne rfl (zg_ne rfl (zg_ne rfl (mb_63 x)))))) (by decide +kernel) (by decide +kernel) (by decide +kernel) rfl ?_
      refine zw_aload_n 66 f166_65 rfl rfl ?_
      refine zw_getfield 69 f166_66 rfl g166_52_12 (zg_eq (zg_eq (zg_ne rfl (zg_eq (zg_eq (mb_52 x)))))) (zg_ne rfl (zg_ne rfl (zg_ne rfl (zg_ne rfl rfl)))) ?_
      refine zw_iload_n 70 f166_69 rfl rfl ?_
      refine zw_aload_n 71 f166_70 rfl rfl ?_
      refine zw_getfield 74 f166_71 rfl g166_102_12 (zg_eq (zg_eq (zg_ne rfl (zg_eq (zg_eq (mb_52 x)))))) (zg_ne rfl (zg_ne rfl (zg_ne rfl (zg_ne rfl rfl)))) ?_
      refine zw_iload_n 75 f166_74 rfl rfl ?_
      refine zw_baload 6 0 76 f166_75 rfl (zg_ne rfl (zg_ne rfl (zg_ne rfl (zg_ne rfl (zg_ne rfl (mb_79 x)))))) (by decide +kernel) (by decide +kernel) (by decide +kernel) rfl ?_
      refine zw_bastoreS 6 77 f166_76 rfl (zg_ne rfl (zg_ne rfl (zg_ne rfl (zg_ne rfl (zg_ne rfl (mb_65 x)))))) (by decide +kernel) (by decide +kernel) (by decide +kernel) (by decide +kernel) ?_
      refine zw_aload_n 78 f166_77 rfl rfl ?_
      refine zw_getfield 81 f166_78 rfl g166_55_12 (zg_eq (zg_eq (zg_ne rfl (zg_eq (zg_eq (mb_52 x)))))) (zg_ne rfl (zg_ne rfl (zg_ne rfl (zg_ne rfl rfl)))) ?_
      refine zw_iload_n 82 f166_81 rfl rfl ?_
      refine zw_aload_n 83 f166_82 rfl rfl ?_
      refine zw_getfield 86 f166_83 rfl g166_105_12 (zg_eq (zg_eq (zg_ne rfl (zg_eq (zg_eq (mb_52 x)))))) (zg_ne rfl (zg_ne rfl (zg_ne rfl (zg_ne rfl rfl)))) ?_
      refine zw_iload_n 87 f166_86 rfl rfl ?_
      refine zw_iaload 6 0 88 f166_87 rfl (zg_ne rfl (zg_ne rfl (zg_ne rfl (zg_ne rfl (zg_ne rfl (mb_80 x)))))) (by decide +kernel) (by decide +kernel) (by decide +kernel) rfl ?_
      refine zw_iastoreS 6 89 f166_88 rfl (zg_ne rfl (zg_ne rfl (zg_ne rfl (zg_ne rfl (zg_ne rfl (mb_66 x)))))) (by decide +kernel) (by decide +kernel) (by decide +kernel) rfl ?_
      refine zw_iinc 7 [(1, .int 7), (0, .ref 52)] 92 f166_89 rfl rfl (by decide +kernel) (by decide +kernel) rfl ?_
      refine zw_goto 47 f166_92 (by decide +kernel) ?_
      refine zw_iload_n 48 f166_47 rfl rfl ?_
      refine zw_bipush 8 50 f166_48 rfl (by decide +kernel) ?_
      refine zw_ic_ge_f 53 95 f166_50 (by decide +kernel) rfl (by decide +kernel) ?_
      refine zw_aload_n 54 f166_53 rfl rfl ?_
      refine zw_getfield 57 f166_54 rfl g166_44_12 (zg_eq (zg_eq (zg_ne rfl (zg_eq (zg_eq (mb_52 x)))))) (zg_ne rfl (zg_ne rfl (zg_ne rfl (zg_ne rfl rfl)))) ?_
      refine zw_iload_n 58 f166_57 rfl rfl ?_
      refine zw_aload_n 59 f166_58 rfl rfl ?_
      refine zw_getfield 62 f166_59 rfl g166_96_12 (zg_eq (zg_eq (zg_ne rfl (zg_eq (zg_eq (mb_52 x)))))) (zg_ne rfl (zg_ne rfl (zg_ne rfl (zg_ne rfl rfl)))) ?_
      refine zw_iload_n 63 f166_62 rfl rfl ?_
      refine zw_laload 7 0 64 f166_63 rfl (zg_ne rfl (zg_ne rfl (zg_ne rfl (zg_ne rfl (zg_ne rfl (mb_77 x)))))) (by decide +kernel) (by decide +kernel) (by decide +kernel) rfl ?_
      refine zw_lastoreS 7 65 f166_64 rfl (zg_ne rfl (zg_ne rfl (zg_ne rfl (zg_ne rfl (zg_ne rfl (mb_63 x)))))) (by decide +kernel) (by decide +kernel) (by decide +kernel) rfl ?_
      refine zw_aload_n 66 f166_65 rfl rfl ?_
      refine zw_getfield 69 f166_66 rfl g166_52_12 (zg_eq (zg_eq (zg_ne rfl (zg_eq (zg_eq (mb_52 x)))))) (zg_ne rfl (zg_ne rfl (zg_ne rfl (zg_ne rfl rfl)))) ?_
      refine zw_iload_n 70 f166_69 rfl rfl ?_
      refine zw_aload_n 71 f166_70 rfl rfl ?_
      refine zw_getfield 74 f166_71 rfl g166_102_12 (zg_eq (zg_eq (zg_ne rfl (zg_eq (zg_eq (mb_52 x)))))) (zg_ne rfl (zg_ne rfl (zg_ne rfl (zg_ne rfl rfl)))) ?_
      refine zw_iload_n 75 f166_74 rfl rfl ?_
      refine zw_baload 7 0 76 f166_75 rfl (zg_ne rfl (zg_ne rfl (zg_ne rfl (zg_ne rfl (zg_ne rfl (mb_79 x)))))) (by decide +kernel) (by decide +kernel) (by decide +kernel) rfl ?_
      refine zw_bastoreS 7 77 f166_76 rfl (zg_ne rfl (zg_ne rfl (zg_ne rfl (zg_ne rfl (zg_ne rfl (mb_65 x)))))) (by decide +kernel) (by decide +kernel) (by decide +kernel) (by decide +kernel) ?_
      refine zw_aload_n 78 f166_77 rfl rfl ?_
      refine zw_getfield 81 f166_78 rfl g166_55_12 (zg_eq (zg_eq (zg_ne rfl (zg_eq (zg_eq (mb_52 x)))))) (zg_ne rfl (zg_ne rfl (zg_ne rfl (zg_ne rfl rfl)))) ?_
      refine zw_iload_n 82 f166_81 rfl rfl ?_
      refine zw_aload_n 83 f166_82 rfl rfl ?_
      refine zw_getfield 86 f166_83 rfl g166_105_12 (zg_eq (zg_eq (zg_ne rfl (zg_eq (zg_eq (mb_52 x)))))) (zg_ne rfl (zg_ne rfl (zg_ne rfl (zg_ne rfl rfl)))) ?_
      refine zw_iload_n 87 f166_86 rfl rfl ?_
      refine zw_iaload 7 0 88 f166_87 rfl (zg_ne rfl (zg_ne rfl (zg_ne rfl (zg_ne rfl (zg_ne rfl (mb_80 x)))))) (by decide +kernel) (by decide +kernel) (by decide +kernel) rfl ?_
      refine zw_iastoreS 7 89 f166_88 rfl (zg_ne rfl (zg_ne rfl (zg_ne rfl (zg_ne rfl (zg_ne rfl (mb_66 x)))))) (by decide +kernel) (by decide +kernel) (by decide +kernel) rfl ?_
      refine zw_iinc 8 [(1, .int 8), (0, .ref 52)] 92 f166_89 rfl rfl (by decide +kernel) (by decide +kernel) rfl ?_
      refine zw_goto 47 f166_92 (by decide +kernel) ?_
      refine zw_iload_n 48 f166_47 rfl rfl ?_
      refine zw_bipush 8 50 f166_48 rfl (by decide +kernel) ?_
      refine zw_ic_ge_t 95 f166_50 (by decide +kernel) (by decide +kernel) ?_
      refine zw_iconst 0 96 f166_95 rfl (by decide +kernel) ?_
      refine zw_istore_n [(1, .int 0), (0, .ref 52)] 97 f166_96 rfl (by decide +kernel) rfl ?_
      refine zw_iload_n 98 f166_97 rfl rfl ?_
      refine zw_bipush 14 100 f166_98 rfl (by decide +kernel) ?_
      refine zw_ic_ge_f 103 121 f166_100 (by decide +kernel) rfl (by decide +kernel) ?_
      refine zw_aload_n 104 f166_103 rfl rfl ?_
      refine zw_getfield 107 f166_104 rfl g166_48_12 (zg_eq (zg_eq (zg_ne rfl (zg_eq (zg_eq (mb_52 x)))))) (zg_ne rfl (zg_ne rfl (zg_ne rfl (zg_ne rfl rfl)))) ?_
      refine zw_iload_n 108 f166_107 rfl rfl ?_
      refine zw_aload_n 109 f166_108 rfl rfl ?_
      refine zw_getfield 112 f166_109 rfl g166_99_12 (zg_eq (zg_eq (zg_ne rfl (zg_eq (zg_eq (mb_52 x)))))) (zg_ne rfl (zg_ne rfl (zg_ne rfl (zg_ne rfl rfl)))) ?_
      refine zw_iload_n 113 f166_112 rfl rfl ?_
      refine zw_baload 0 0 114 f166_113 rfl (zg_ne rfl (zg_ne rfl (zg_ne rfl (zg_ne rfl (zg_ne rfl (mb_78 x)))))) (by decide +kernel) (by decide +kernel) (by decide +kernel) rfl ?_
      refine zw_bastoreS 0 115 f166_114 rfl (zg_ne rfl (zg_ne rfl (zg_ne rfl (zg_ne rfl (zg_ne rfl (mb_64 x)))))) (by decide +kernel) (by decide +kernel) (by decide +kernel) (by decide +kernel) ?_
      refine zw_iinc 1 [(1, .int 1), (0, .ref 52)] 118 f166_115 rfl rfl (by decide +kernel) (by decide +kernel) rfl ?_
      refine zw_goto 97 f166_118 (by decide +kernel) ?_
      refine zw_iload_n 98 f166_97 rfl rfl ?_
      refine zw_bipush 14 100 f166_98 rfl (by decide +kernel) ?_
      refine zw_ic_ge_f 103 121 f166_100 (by decide +kernel) rfl (by decide +kernel) ?_
      refine zw_aload_n 104 f166_103 rfl rfl ?_
      refine zw_getfield 107 f166_104 rfl g166_48_12 (zg_eq (zg_eq (zg_ne rfl (zg_eq (zg_eq (mb_52 x)))))) (zg_ne rfl (zg_ne rfl (zg_ne rfl (zg_ne rfl rfl)))) ?_
      refine zw_iload_n 108 f166_107 rfl rfl ?_
      refine zw_aload_n 109 f166_108 rfl rfl ?_
      refine zw_getfield 112 f166_109 rfl g166_99_12 (zg_eq (zg_eq (zg_ne rfl (zg_eq (zg_eq (mb_52 x)))))) (zg_ne rfl (zg_ne rfl (zg_ne rfl (zg_ne rfl rfl)))) ?_
      refine zw_iload_n 113 f166_112 rfl rfl ?_
      refine zw_baload 1 0 114 f166_113 rfl (zg_ne rfl (zg_ne rfl (zg_ne rfl (zg_ne rfl (zg_ne rfl (mb_78 x)))))) (by decide +kernel) (by decide +kernel) (by decide +kernel) rfl ?_
      refine zw_bastoreS 1 115 f166_114 rfl (zg_ne rfl (zg_ne rfl (zg_ne rfl (zg_ne rfl (zg_ne rfl (mb_64 x)))))) (by decide +kernel) (by decide +kernel) (by decide +kernel) (by decide +kernel) ?_
      refine zw_iinc 2 [(1, .int 2), (0, .ref 52)] 118 f166_115 rfl rfl (by decide +kernel) (by decide +kernel) rfl ?_
      refine zw_goto 97 f166_118 (by decide +kernel) ?_
      refine zw_iload_n 98 f166_97 rfl rfl ?_
      refine zw_bipush 14 100 f166_98 rfl (by decide +kernel) ?_
      refine zw_ic_ge_f 103 121 f166_100 (by decide +kernel) rfl (by decide +kernel) ?_
      refine zw_aload_n 104 f166_103 rfl rfl ?_
      refine zw_getfield 107 f166_104 rfl g166_48_12 (zg_eq (zg_eq (zg_ne rfl (zg_eq (zg_eq (mb_52 x)))))) (zg_ne rfl (zg_ne rfl (zg_ne rfl (zg_ne rfl rfl)))) ?_
      refine zw_iload_n 108 f166_107 rfl rfl ?_
      refine zw_aload_n 109 f166_108 rfl rfl ?_
      refine zw_getfield 112 f166_109 rfl g166_99_12 (zg_eq (zg_eq (zg_ne rfl (zg_eq (zg_eq (mb_52 x)))))) (zg_ne rfl (zg_ne rfl (zg_ne rfl (zg_ne rfl rfl)))) ?_
      refine zw_iload_n 113 f166_112 rfl rfl ?_
      refine zw_baload 2 0 114 f166_113 rfl (zg_ne rfl (zg_ne rfl (zg_ne rfl (zg_ne rfl (zg_ne rfl (mb_78 x)))))) (by decide +kernel) (by decide +kernel) (by decide +kernel) rfl ?_
      refine zw_bastoreS 2 115 f166_114 rfl (zg_ne rfl (zg_ne rfl (zg_ne rfl (zg_ne rfl (zg_ne rfl (mb_64 x)))))) (by decide +kernel) (by decide +kernel) (by decide +kernel) (by decide +kernel) ?_
      refine zw_iinc 3 [(1, .int 3), (0, .ref 52)] 118 f166_115 rfl rfl (by decide +kernel) (by decide +kernel) rfl ?_
      refine zw_goto 97 f166_118 (by decide +kernel) ?_
      refine zw_iload_n 98 f166_97 rfl rfl ?_
      refine zw_bipush 14 100 f166_98 rfl (by decide +kernel) ?_
      refine zw_ic_ge_f 103 121 f166_100 (by decide +kernel) rfl (by decide +kernel) ?_
      refine zw_aload_n 104 f166_103 rfl rfl ?_
      refine zw_getfield 107 f166_104 rfl g166_48_12 (zg_eq (zg_eq (zg_ne rfl (zg_eq (zg_eq (mb_52 x)))))) (zg_ne rfl (zg_ne rfl (zg_ne rfl (zg_ne rfl rfl)))) ?_
      refine zw_iload_n 108 f166_107 rfl rfl ?_
      refine zw_aload_n 109 f166_108 rfl rfl ?_
      refine zw_getfield 112 f166_109 rfl g166_99_12 (zg_eq (zg_eq (zg_ne rfl (zg_eq (zg_eq (mb_52 x)))))) (zg_ne rfl (zg_ne rfl (zg_ne rfl (zg_ne rfl rfl)))) ?_
      refine zw_iload_n 113 f166_112 rfl rfl ?_
      refine zw_baload 3 0 114 f166_113 rfl (zg_ne rfl (zg_ne rfl (zg_ne rfl (zg_ne rfl (zg_ne rfl (mb_78 x)))))) (by decide +kernel) (by decide +kernel) (by decide +kernel) rfl ?_
      refine zw_bastoreS 3 115 f166_114 rfl (zg_ne rfl (zg_ne rfl (zg_ne rfl (zg_ne rfl (zg_ne rfl (mb_64 x)))))) (by decide +kernel) (by decide +kernel) (by decide +kernel) (by decide +kernel) ?_
      refine zw_iinc 4 [(1, .int 4), (0, .ref 52)] 118 f166_115 rfl rfl (by decide +kernel) (by decide +kernel) rfl ?_
      refine zw_goto 97 f166_118 (by decide +kernel) ?_
      refine zw_iload_n 98 f166_97 rfl rfl ?_
      refine zw_bipush 14 100 f166_98 rfl (by decide +kernel) ?_
      refine zw_ic_ge_f 103 121 f166_100 (by decide +kernel) rfl (by decide +kernel) ?_
      refine zw_aload_n 104 f166_103 rfl rfl ?_
      refine zw_getfield 107 f166_104 rfl g166_48_12 (zg_eq (zg_eq (zg_ne rfl (zg_eq (zg_eq (mb_52 x)))))) (zg_ne rfl (zg_ne rfl (zg_ne rfl (zg_ne rfl rfl)))) ?_
      refine zw_iload_n 108 f166_107 rfl rfl ?_
      refine zw_aload_n 109 f166_108 rfl rfl ?_
      refine zw_getfield 112 f166_109 rfl g166_99_12 (zg_eq (zg_eq (zg_ne rfl (zg_eq (zg_eq (mb_52 x)))))) (zg_ne rfl (zg_ne rfl (zg_ne rfl (zg_ne rfl rfl)))) ?_
      refine zw_iload_n 113 f166_112 rfl rfl ?_
      refine zw_baload 4 0 114 f166_113 rfl (zg_ne rfl (zg_ne rfl (zg_ne rfl (zg_ne rfl (zg_ne rfl (mb_78 x)))))) (by decide +kernel) (by decide +kernel) (by decide +kernel) rfl ?_
      refine zw_bastoreS 4 115 f166_114 rfl (zg_ne rfl (zg_ne rfl (zg_ne rfl (zg_ne rfl (zg_ne rfl (mb_64 x)))))) (by decide +kernel) (by decide +kernel) (by decide +kernel) (by decide +kernel) ?_
      refine zw_iinc 5 [(1, .int 5), (0, .ref 52)] 118 f166_115 rfl rfl (by decide +kernel) (by decide +kernel) rfl ?_
      refine zw_goto 97 f166_118 (by decide +kernel) ?_
      refine zw_iload_n 98 f166_97 rfl rfl ?_
      refine zw_bipush 14 100 f166_98 rfl (by decide +kernel) ?_
      refine zw_ic_ge_f 103 121 f166_100 (by decide +kernel) rfl (by decide +kernel) ?_
      refine zw_aload_n 104 f166_103 rfl rfl ?_
      refine zw_getfield 107 f166_104 rfl g166_48_12 (zg_eq (zg_eq (zg_ne rfl (zg_eq (zg_eq (mb_52 x)))))) (zg_ne rfl (zg_ne rfl (zg_ne rfl (zg_ne rfl rfl)))) ?_
      refine zw_iload_n 108 f166_107 rfl rfl ?_
      refine zw_aload_n 109 f166_108 rfl rfl ?_
      refine zw_getfield 112 f166_109 rfl g166_99_12 (zg_eq (zg_eq (zg_ne rfl (zg_eq (zg_eq (mb_52 x)))))) (zg_ne rfl (zg_ne rfl (zg_ne rfl (zg_ne rfl rfl)))) ?_
      refine zw_iload_n 113 f166_112 rfl rfl ?_
      refine zw_baload 5 0 114 f166_113 rfl (zg_ne rfl (zg_ne rfl (zg_ne rfl (zg_ne rfl (zg_ne rfl (mb_78 x)))))) (by decide +kernel) (by decide +kernel) (by decide +kernel) rfl ?_
      refine zw_bastoreS 5 115 f166_114 rfl (zg_ne rfl (zg_ne rfl (zg_ne rfl (zg_ne rfl (zg_ne rfl (mb_64 x)))))) (by decide +kernel) (by decide +kernel) (by decide +kernel) (by decide +kernel) ?_
      refine zw_iinc 6 [(1, .int 6), (0, .ref 52)] 118 f166_115 rfl rfl (by decide +kernel) (by decide +kernel) rfl ?_
      refine zw_goto 97 f166_118 (by decide +kernel) ?_
      refine zw_iload_n 98 f166_97 rfl rfl ?_
      refine zw_bipush 14 100 f166_98 rfl (by decide +kernel) ?_
      refine zw_ic_ge_f 103 121 f166_100 (by decide +kernel) rfl (by decide +kernel) ?_
      refine zw_aload_n 104 f166_103 rfl rfl ?_
      refine zw_getfield 107 f166_104 rfl g166_48_12 (zg_eq (zg_eq (zg_ne rfl (zg_eq (zg_eq (mb_52 x)))))) (zg_ne rfl (zg_ne rfl (zg_ne rfl (zg_ne rfl rfl)))) ?_
      refine zw_iload_n 108 f166_107 rfl rfl ?_
      refine zw_aload_n 109 f166_108 rfl rfl ?_
      refine zw_getfield 112 f166_109 rfl g166_99_12 (zg_eq (zg_eq (zg_ne rfl (zg_eq (zg_eq (mb_52 x)))))) (zg_ne rfl (zg_ne rfl (zg_ne rfl (zg_ne rfl rfl)))) ?_
      refine zw_iload_n 113 f166_112 rfl rfl ?_
      refine zw_baload 6 0 114 f166_113 rfl (zg_ne rfl (zg_ne rfl (zg_ne rfl (zg_ne rfl (zg_ne rfl (mb_78 x)))))) (by decide +kernel) (by decide +kernel) (by decide +kernel) rfl ?_
      refine zw_bastoreS 6 115 f166_114 rfl (zg_ne rfl (zg_ne rfl (zg_ne rfl (zg_ne rfl (zg_ne rfl (mb_64 x)))))) (by decide +kernel) (by decide +kernel) (by decide +kernel) (by decide +kernel) ?_
      refine zw_iinc 7 [(1, .int 7), (0, .ref 52)] 118 f166_115 rfl rfl (by decide +kernel) (by decide +kernel) rfl ?_
      refine zw_goto 97 f166_118 (by decide +kernel) ?_
      refine zw_iload_n 98 f166_97 rfl rfl ?_
      refine zw_bipush 14 100 f166_98 rfl (by decide +kernel) ?_
      refine zw_ic_ge_f 103 121 f166_100 (by decide +kernel) rfl (by decide +kernel) ?_
      refine zw_aload_n 104 f166_103 rfl rfl ?_
      refine zw_getfield 107 f166_104 rfl g166_48_12 (zg_eq (zg_eq (zg_ne rfl (zg_eq (zg_eq (mb_52 x)))))) (zg_ne rfl (zg_ne rfl (zg_ne rfl (zg_ne rfl rfl)))) ?_
      refine zw_iload_n 108 f166_107 rfl rfl ?_
      refine zw_aload_n 109 f166_108 rfl rfl ?_
      refine zw_getfield 112 f166_109 rfl g166_99_12 (zg_eq (zg_eq (zg_ne rfl (zg_eq (zg_eq (mb_52 x)))))) (zg_ne rfl (zg_ne rfl (zg_ne rfl (zg_ne rfl rfl)))) ?_
      refine zw_iload_n 113 f166_112 rfl rfl ?_
      refine zw_baload 7 0 114 f166_113 rfl (zg_ne rfl (zg_ne rfl (zg_ne rfl (zg_ne rfl (zg_ne rfl (mb_78 x)))))) (by decide +kernel) (by decide +kernel) (by decide +kernel) rfl ?_
      refine zw_bastoreS 7 115 f166_114 rfl (zg_ne rfl (zg_ne rfl (zg_ne rfl (zg_ne rfl (zg_ne rfl (mb_64 x)))))) (by decide +kernel) (by decide +kernel) (by decide +kernel) (by decide +kernel) ?_
      refine zw_iinc 8 [(1, .int 8), (0, .ref 52)] 118 f166_115 rfl rfl (by decide +kernel) (by decide +kernel) rfl ?_
      refine zw_goto 97 f166_118 (by decide +kernel) ?_
      refine zw_iload_n 98 f166_97 rfl rfl ?_
      refine zw_bipush 14 100 f166_98 rfl (by decide +kernel) ?_
      refine zw_ic_ge_f 103 121 f166_100 (by decide +kernel) rfl (by decide +kernel) ?_
      refine zw_aload_n 104 f166_103 rfl rfl ?_
      refine zw_getfield 107 f166_104 rfl g166_48_12 (zg_eq (zg_eq (zg_ne rfl (zg_eq (zg_eq (mb_52 x)))))) (zg_ne rfl (zg_ne rfl (zg_ne rfl (zg_ne rfl rfl)))) ?_
      refine zw_iload_n 108 f166_107 rfl rfl ?_
      refine zw_aload_n 109 f166_108 rfl rfl ?_
      refine zw_getfield 112 f166_109 rfl g166_99_12 (zg_eq (zg_eq (zg_ne rfl (zg_eq (zg_eq (mb_52 x)))))) (zg_ne rfl (zg_ne rfl (zg_ne rfl (zg_ne rfl rfl)))) ?_
      refine zw_iload_n 113 f166_112 rfl rfl ?_
      refine zw_baload 8 0 114 f166_113 rfl (zg_ne rfl (zg_ne rfl (zg_ne rfl (zg_ne rfl (zg_ne rfl (mb_78 x)))))) (by decide +kernel) (by decide +kernel) (by decide +kernel) rfl ?_
      refine zw_bastoreS 8 115 f166_114 rfl (zg_ne rfl (zg_ne rfl (zg_ne rfl (zg_ne rfl (zg_ne rfl (mb_64 x)))))) (by decide +kernel) (by decide +kernel) (by decide +kernel) (by decide +kernel) ?_
      refine zw_iinc 9 [(1, .int 9), (0, .ref 52)] 118 f166_115 rfl rfl (by decide +kernel) (by decide +kernel) rfl ?_
      refine zw_goto 97 f166_118 (by decide +kernel) ?_
      refine zw_iload_n 98 f166_97 rfl rfl ?_
      refine zw_bipush 14 100 f166_98 rfl (by decide +kernel) ?_
      refine zw_ic_ge_f 103 121 f166_100 (by decide +kernel) rfl (by decide +kernel) ?_
      refine zw_aload_n 104 f166_103 rfl rfl ?_
      refine zw_getfield 107 f166_104 rfl g166_48_12 (zg_eq (zg_eq (zg_ne rfl (zg_eq (zg_eq (mb_52 x)))))) (zg_ne rfl (zg_ne rfl (zg_ne rfl (zg_ne rfl rfl)))) ?_
      refine zw_iload_n 108 f166_107 rfl rfl ?_
      refine zw_aload_n 109 f166_108 rfl rfl ?_
      refine zw_getfield 112 f166_109 rfl g166_99_12 (zg_eq (zg_eq (zg_ne rfl (zg_eq (zg_eq (mb_52 x)))))) (zg_ne rfl (zg_ne rfl (zg_ne rfl (zg_ne rfl rfl)))) ?_
      refine zw_iload_n 113 f166_112 rfl rfl ?_
      refine zw_baload 9 0 114 f166_113 rfl (zg_ne rfl (zg_ne rfl (zg_ne rfl (zg_ne rfl (zg_ne rfl (mb_78 x)))))) (by decide +kernel) (by decide +kernel) (by decide +kernel) rfl ?_
      refine zw_bastoreS 9 115 f166_114 rfl (zg_ne rfl (zg_ne rfl (zg_ne rfl (zg_ne rfl (zg_ne rfl (mb_64 x)))))) (by decide +kernel) (by decide +kernel) (by decide +kernel) (by decide +kernel) ?_
      refine zw_iinc 10 [(1, .int 10), (0, .ref 52)] 118 f166_115 rfl rfl (by decide +kernel) (by decide +kernel) rfl ?_
      refine zw_goto 97 f166_118 (by decide +kernel) ?_
      refine zw_iload_n 98 f166_97 rfl rfl ?_
      refine zw_bipush 14 100 f166_98 rfl (by decide +kernel) ?_
      refine zw_ic_ge_f 103 121 f166_100 (by decide +kernel) rfl (by decide +kernel) ?_
      refine zw_aload_n 104 f166_103 rfl rfl ?_
      refine zw_getfield 107 f166_104 rfl g166_48_12 (zg_eq (zg_eq (zg_ne rfl (zg_eq (zg_eq (mb_52 x)))))) (zg_ne rfl (zg_ne rfl (zg_ne rfl (zg_ne rfl rfl)))) ?_
      refine zw_iload_n 108 f166_107 rfl rfl ?_
      refine zw_aload_n 109 f166_108 rfl rfl ?_
      refine zw_getfield 112 f166_109 rfl g166_99_12 (zg_eq (zg_eq (zg_ne rfl (zg_eq (zg_eq (mb_52 x)))))) (zg_ne rfl (zg_ne rfl (zg_ne rfl (zg_ne rfl rfl)))) ?_
      refine zw_iload_n 113 f166_112 rfl rfl ?_
      refine zw_baload 10 0 114 f166_113 rfl (zg_ne rfl (zg_ne rfl (zg_ne rfl (zg_ne rfl (zg_ne rfl (mb_78 x)))))) (by decide +kernel) (by decide +kernel) (by decide +kernel) rfl ?_
      refine zw_bastoreS 10 115 f166_114 rfl (zg_ne rfl (zg_ne rfl (zg_ne rfl (zg_ne rfl (zg_ne rfl (mb_64 x)))))) (by decide +kernel) (by decide +kernel) (by decide +kernel) (by decide +kernel) ?_
      refine zw_iinc 11 [(1, .int 11), (0, .ref 52)] 118 f166_115 rfl rfl (by decide +kernel) (by decide +kernel) rfl ?_
      refine zw_goto 97 f166_118 (by decide +kernel) ?_
      refine zw_iload_n 98 f166_97 rfl rfl ?_
      refine zw_bipush 14 100 f166_98 rfl (by decide +kernel) ?_
      refine zw_ic_ge_f 103 121 f166_100 (by decide +kernel) rfl (by decide +kernel) ?_
      refine zw_aload_n 104 f166_103 rfl rfl ?_
      refine zw_getfield 107 f166_104 rfl g166_48_12 (zg_eq (zg_eq (zg_ne rfl (zg_eq (zg_eq (mb_52 x)))))) (zg_ne rfl (zg_ne rfl (zg_ne rfl (zg_ne rfl rfl)))) ?_
      refine zw_iload_n 108 f166_107 rfl rfl ?_
      refine zw_aload_n 109 f166_108 rfl rfl ?_
      refine zw_getfield 112 f166_109 rfl g166_99_12 (zg_eq (zg_eq (zg_ne rfl (zg_eq (zg_eq (mb_52 x)))))) (zg_ne rfl (zg_ne rfl (zg_ne rfl (zg_ne rfl rfl)))) ?_
      refine zw_iload_n 113 f166_112 rfl rfl ?_
      refine zw_baload 11 0 114 f166_113 rfl (zg_ne rfl (zg_ne rfl (zg_ne rfl (zg_ne rfl (zg_ne rfl (mb_78 x)))))) (by decide +kernel) (by decide +kernel) (by decide +kernel) rfl ?_
      refine zw_bastoreS 11 115 f166_114 rfl (zg_ne rfl (zg_ne rfl (zg_ne rfl (zg_ne rfl (zg_ne rfl (mb_64 x)))))) (by decide +kernel) (by decide +kernel) (by decide +kernel) (by decide +kernel) ?_
      refine zw_iinc 12 [(1, .int 12), (0, .ref 52)] 118 f166_115 rfl rfl (by decide +kernel) (by decide +kernel) rfl ?_
      refine zw_goto 97 f166_118 (by decide +kernel) ?_
      refine zw_iload_n 98 f166_97 rfl rfl ?_
      refine zw_bipush 14 100 f166_98 rfl (by decide +kernel) ?_
      refine zw_ic_ge_f 103 121 f166_100 (by decide +kernel) rfl (by decide +kernel) ?_
      refine zw_aload_n 104 f166_103 rfl rfl ?_
      refine zw_getfield 107 f166_104 rfl g166_48_12 (zg_eq (zg_eq (zg_ne rfl (zg_eq (zg_eq (mb_52 x)))))) (zg_ne rfl (zg_ne rfl (zg_ne rfl (zg_ne rfl rfl)))) ?_
      refine zw_iload_n 108 f166_107 rfl rfl ?_
      refine zw_aload_n 109 f166_108 rfl rfl ?_
      refine zw_getfield 112 f166_109 rfl g166_99_12 (zg_eq (zg_eq (zg_ne rfl (zg_eq (zg_eq (mb_52 x)))))) (zg_ne rfl (zg_ne rfl (zg_ne rfl (zg_ne rfl rfl)))) ?_
      refine zw_iload_n 113 f166_112 rfl rfl ?_
      refine zw_baload 12 0 114 f166_113 rfl (zg_ne rfl (zg_ne rfl (zg_ne rfl (zg_ne rfl (zg_ne rfl (mb_78 x)))))) (by decide +kernel) (by decide +kernel) (by decide +kernel) rfl ?_
      refine zw_bastoreS 12 115 f166_114 rfl (zg_ne rfl (zg_ne rfl (zg_ne rfl (zg_ne rfl (zg_ne rfl (mb_64 x)))))) (by decide +kernel) (by decide +kernel) (by decide +kernel) (by decide +kernel) ?_
      refine zw_iinc 13 [(1, .int 13), (0, .ref 52)] 118 f166_115 rfl rfl (by decide +kernel) (by decide +kernel) rfl ?_
      refine zw_goto 97 f166_118 (by decide +kernel) ?_
      refine zw_iload_n 98 f166_97 rfl rfl ?_
      refine zw_bipush 14 100 f166_98 rfl (by decide +kernel) ?_
      refine zw_ic_ge_f 103 121 f166_100 (by decide +kernel) rfl (by decide +kernel) ?_
      refine zw_aload_n 104 f166_103 rfl rfl ?_
      refine zw_getfield 107 f166_104 rfl g166_48_12 (zg_eq (zg_eq (zg_ne rfl (zg_eq (zg_eq (mb_52 x)))))) (zg_ne rfl (zg_ne rfl (zg_ne rfl (zg_ne rfl rfl)))) ?_
      refine zw_iload_n 108 f166_107 rfl rfl ?_
      refine zw_aload_n 109 f166_108 rfl rfl ?_
      refine zw_getfield 112 f166_109 rfl g166_99_12 (zg_eq (zg_eq (zg_ne rfl (zg_eq (zg_eq (mb_52 x)))))) (zg_ne rfl (zg_ne rfl (zg_ne rfl (zg_ne rfl rfl)))) ?_
      refine zw_iload_n 113 f166_112 rfl rfl ?_
      refine zw_baload 13 0 114 f166_113 rfl (zg_ne rfl (zg_ne rfl (zg_ne rfl (zg_ne rfl (zg_ne rfl (mb_78 x)))))) (by decide +kernel) (by decide +kernel) (by decide +kernel) rfl ?_
      refine zw_bastoreS 13 115 f166_114 rfl (zg_ne rfl (zg_ne rfl (zg_ne rfl (zg_ne rfl (zg_ne rfl (mb_64 x)))))) (by decide +kernel) (by decide +kernel) (by decide +kernel) (by decide +kernel) ?_
      refine zw_iinc 14 [(1, .int 14), (0, .ref 52)] 118 f166_115 rfl rfl (by decide +kernel) (by decide +kernel) rfl ?_
      refine zw_goto 97 f166_118 (by decide +kernel) ?_
      refine zw_iload_n 98 f166_97 rfl rfl ?_
      refine zw_bipush 14 100 f166_98 rfl (by decide +kernel) ?_
      refine zw_ic_ge_t 121 f166_100 (by decide +kernel) (by decide +kernel) ?_
      refine zw_vreturn f166_121 r166 u166 ⟨rfl, ?_⟩
      refine zw_iload_n 25 f170_24 rfl rfl ?_
      refine zw_if_ne_t 30 f170_25 (by decide +kernel) h1 ?_
      refine zw_iload_n 31 f170_30 rfl rfl ?_
      refine zw_iconst 1 32 f170_31 rfl (by decide +kernel) ?_
      refine zw_ic_eq_f 35 37 f170_32 (by decide +kernel) rfl (by decide +kernel) ?_
      refine zw_iconst (-1) 36 f170_35 rfl (by decide +kernel) ?_
      refine zw_ireturn f170_36 r170 u170 ?_
      exact rfl
set_option maxRecDepth 100000 in
set_option maxHeartbeats 0 in
theorem m_tune_r (ro : UInt32 → Nat × (Nat → Int32)) (x : Nat → va_E) (a b c d e : Int32) : zWp ro 172 0 [(0, .ref 52), (1, .int a), (2, .int b), (3, .int c), (4, .int d), (5, .int e)] [] (hMx x) 0 0 (fun r _ => r = some (.int (-1))) := by
  refine zw_aload_n 1 f172_0 rfl rfl ?_
  refine zw_iload_n 2 f172_1 rfl rfl ?_
  refine zw_virtual_i 5 0 0 [.ref 52, .int a] [(0, .ref 52), (1, .int a)] f172_2 rfl n172_218 k172_218_12 rfl (mb_52 x) (by decide +kernel) (Nat.le_of_ble_eq_true rfl) rfl rfl (by decide +kernel) (by decide +kernel) rfl (Nat.le_of_ble_eq_true rfl) rfl ?_
  refine zw_iload_n 1 f124_0 rfl rfl ?_
  refine zw_iconst 0 2 f124_1 rfl (by decide +kernel) ?_
  refine zw_aload_n 3 f124_2 rfl rfl ?_
  refine zw_getfield 6 f124_3 rfl g124_121_12 (mb_52 x) rfl ?_
  refine zw_iconst 1 7 f124_6 rfl (by decide +kernel) ?_
  refine zw_isub (-1) 8 f124_7 rfl (by decide +kernel) ?_
  refine zw_static_i 11 0 0 [.int a, .int 0, .int (-1)] [] [(0, .int a), (1, .int 0), (2, .int (-1))] f124_8 rfl k124_117_99 rfl (by decide +kernel) (Nat.le_of_ble_eq_true rfl) (Nat.le_of_ble_eq_true rfl) rfl rfl (by decide +kernel) (by decide +kernel) rfl (Nat.le_of_ble_eq_true rfl) rfl ?_
  refine zw_iload_n 1 f120_0 rfl rfl ?_
  refine zw_iload_n 2 f120_1 rfl rfl ?_
  refine zw_ic_lt 5 14 f120_2 (by decide +kernel) rfl (fun hc1 => ?_) (fun hc1 => ?_)
  · refine zw_iconst 0 15 f120_14 rfl (by decide +kernel) ?_
    refine zw_zreturn f120_15 r120 u120 (by decide +kernel) ⟨_, rfl, ?_⟩
    refine zw_zreturn f124_11 r124 u124 (by decide +kernel) ⟨_, rfl, ?_⟩
    refine zw_if_eq_t 50 f172_5 (by decide +kernel) (by decide +kernel) ?_
    refine zw_iconst 0 51 f172_50 rfl (by decide +kernel) ?_
    refine zw_istore [(6, .int 0), (0, .ref 52), (1, .int a), (2, .int b), (3, .int c), (4, .int d), (5, .int e)] 53 f172_51 rfl (by decide +kernel) rfl ?_
    refine zw_iload 55 f172_53 rfl rfl ?_
    refine zw_if_eq_t 82 f172_55 (by decide +kernel) (by decide +kernel) ?_
    refine zw_aload_n 83 f172_82 rfl rfl ?_
    refine zw_iconst 1 84 f172_83 rfl (by decide +kernel) ?_
    refine zw_virtual_i 87 0 0 [.ref 52, .int 1] [(0, .ref 52), (1, .int 1)] f172_84 rfl n172_209 k172_209_12 rfl (mb_52 x) (by decide +kernel) (Nat.le_of_ble_eq_true rfl) rfl rfl (by decide +kernel) (by decide +kernel) rfl (Nat.le_of_ble_eq_true rfl) rfl ?_
    refine zw_aload_n 1 f121_0 rfl rfl ?_
    refine zw_iload_n 2 f121_1 rfl rfl ?_
    refine zw_putfield 5 f121_2 rfl g121_111_12 (mb_52 x) rfl (zg_lt rfl) (by decide +kernel) ?_
    refine zw_iconst (-1) 6 f121_5 rfl (by decide +kernel) ?_
    refine zw_ireturn f121_6 r121 u121 ⟨_, rfl, ?_⟩
    refine zw_ireturn f172_87 r172 u172 ?_
    exact rfl
  · refine zw_iload_n 6 f120_5 rfl rfl ?_
    refine zw_iload_n 7 f120_6 rfl rfl ?_
    refine zw_ic_gt_t 14 f120_7 (by decide +kernel) (zl_m1 hc1) ?_
    refine zw_iconst 0 15 f120_14 rfl (by decide +kernel) ?_
    refine zw_zreturn f120_15 r120 u120 (by decide +kernel) ⟨_, rfl, ?_⟩
    refine zw_zreturn f124_11 r124 u124 (by decide +kernel) ⟨_, rfl, ?_⟩
    refine zw_if_eq_t 50 f172_5 (by decide +kernel) (by decide +kernel) ?_
    refine zw_iconst 0 51 f172_50 rfl (by decide +kernel) ?_
    refine zw_istore [(6, .int 0), (0, .ref 52), (1, .int a), (2, .int b), (3, .int c), (4, .int d), (5, .int e)] 53 f172_51 rfl (by decide +kernel) rfl ?_
    refine zw_iload 55 f172_53 rfl rfl ?_
    refine zw_if_eq_t 82 f172_55 (by decide +kernel) (by decide +kernel) ?_
    refine zw_aload_n 83 f172_82 rfl rfl ?_
    refine zw_iconst 1 84 f172_83 rfl (by decide +kernel) ?_
    refine zw_virtual_i 87 0 0 [.ref 52, .int 1] [(0, .ref 52), (1, .int 1)] f172_84 rfl n172_209 k172_209_12 rfl (mb_52 x) (by decide +kernel) (Nat.le_of_ble_eq_true rfl) rfl rfl (by decide +kernel) (by decide +kernel) rfl (Nat.le_of_ble_eq_true rfl) rfl ?_
    refine zw_aload_n 1 f121_0 rfl rfl ?_
    refine zw_iload_n 2 f121_1 rfl rfl ?_
    refine zw_putfield 5 f121_2 rfl g121_111_12 (mb_52 x) rfl (zg_lt rfl) (by decide +kernel) ?_
    refine zw_iconst (-1) 6 f121_5 rfl (by decide +kernel) ?_
    refine zw_ireturn f121_6 r121 u121 ⟨_, rfl, ?_⟩
    refine zw_ireturn f172_87 r172 u172 ?_
    exact rfl
set_option maxRecDepth 100000 in
set_option maxHeartbeats 0 in
theorem m_act_r (ro : UInt32 → Nat × (Nat → Int32)) (x : Nat → va_E) (a b c : Int32) : zWp ro 180 0 [(0, .ref 52), (1, .int a), (2, .int b), (3, .int c)] [] (hMx x) 0 0 (fun r _ => r = some (.int (-1))) := by
  refine zw_aload_n 1 f180_0 rfl rfl ?_
  refine zw_iload_n 2 f180_1 rfl rfl ?_
  refine zw_virtual_i 5 0 0 [.ref 52, .int a] [(0, .ref 52), (1, .int a)] f180_2 rfl n180_215 k180_215_12 rfl (mb_52 x) (by decide +kernel) (Nat.le_of_ble_eq_true rfl) rfl rfl (by decide +kernel) (by decide +kernel) rfl (Nat.le_of_ble_eq_true rfl) rfl ?_
  refine zw_iload_n 1 f123_0 rfl rfl ?_
  refine zw_iconst 0 2 f123_1 rfl (by decide +kernel) ?_
  refine zw_aload_n 3 f123_2 rfl rfl ?_
  refine zw_getfield 6 f123_3 rfl g123_114_12 (mb_52 x) rfl ?_
  refine zw_iconst 1 7 f123_6 rfl (by decide +kernel) ?_
  refine zw_isub (-1) 8 f123_7 rfl (by decide +kernel) ?_
  refine zw_static_i 11 0 0 [.int a, .int 0, .int (-1)] [] [(0, .int a), (1, .int 0), (2, .int (-1))] f123_8 rfl k123_117_99 rfl (by decide +kernel) (Nat.le_of_ble_eq_true rfl) (Nat.le_of_ble_eq_true rfl) rfl rfl (by decide +kernel) (by decide +kernel) rfl (Nat.le_of_ble_eq_true rfl) rfl ?_
  refine zw_iload_n 1 f120_0 rfl rfl ?_
  refine zw_iload_n 2 f120_1 rfl rfl ?_
  refine zw_ic_lt 5 14 f120_2 (by decide +kernel) rfl (fun hc1 => ?_) (fun hc1 => ?_)
  · refine zw_iconst 0 15 f120_14 rfl (by decide +kernel) ?_
    refine zw_zreturn f120_15 r120 u120 (by decide +kernel) ⟨_, rfl, ?_⟩
    refine zw_zreturn f123_11 r123 u123 (by decide +kernel) ⟨_, rfl, ?_⟩
    refine zw_if_eq_t 17 f180_5 (by decide +kernel) (by decide +kernel) ?_
    refine zw_aload_n 18 f180_17 rfl rfl ?_
    refine zw_iconst 1 19 f180_18 rfl (by decide +kernel) ?_
    refine zw_virtual_i 22 0 0 [.ref 52, .int 1] [(0, .ref 52), (1, .int 1)] f180_19 rfl n180_209 k180_209_12 rfl (mb_52 x) (by decide +kernel) (Nat.le_of_ble_eq_true rfl) rfl rfl (by decide +kernel) (by decide +kernel) rfl (Nat.le_of_ble_eq_true rfl) rfl ?_
    refine zw_aload_n 1 f121_0 rfl rfl ?_
    refine zw_iload_n 2 f121_1 rfl rfl ?_
    refine zw_putfield 5 f121_2 rfl g121_111_12 (mb_52 x) rfl (zg_lt rfl) (by decide +kernel) ?_
    refine zw_iconst (-1) 6 f121_5 rfl (by decide +kernel) ?_
    refine zw_ireturn f121_6 r121 u121 ⟨_, rfl, ?_⟩
    refine zw_ireturn f180_22 r180 u180 ?_
    exact rfl
  · refine zw_iload_n 6 f120_5 rfl rfl ?_
    refine zw_iload_n 7 f120_6 rfl rfl ?_
    refine zw_ic_gt_t 14 f120_7 (by decide +kernel) (zl_m1 hc1) ?_
    refine zw_iconst 0 15 f120_14 rfl (by decide +kernel) ?_
    refine zw_zreturn f120_15 r120 u120 (by decide +kernel) ⟨_, rfl, ?_⟩
    refine zw_zreturn f123_11 r123 u123 (by decide +kernel) ⟨_, rfl, ?_⟩
    refine zw_if_eq_t 17 f180_5 (by decide +kernel) (by decide +kernel) ?_
    refine zw_aload_n 18 f180_17 rfl rfl ?_
    refine zw_iconst 1 19 f180_18 rfl (by decide +kernel) ?_
    refine zw_virtual_i 22 0 0 [.ref 52, .int 1] [(0, .ref 52), (1, .int 1)] f180_19 rfl n180_209 k180_209_12 rfl (mb_52 x) (by decide +kernel) (Nat.le_of_ble_eq_true rfl) rfl rfl (by decide +kernel) (by decide +kernel) rfl (Nat.le_of_ble_eq_true rfl) rfl ?_
    refine zw_aload_n 1 f121_0 rfl rfl ?_
    refine zw_iload_n 2 f121_1 rfl rfl ?_
    refine zw_putfield 5 f121_2 rfl g121_111_12 (mb_52 x) rfl (zg_lt rfl) (by decide +kernel) ?_
    refine zw_iconst (-1) 6 f121_5 rfl (by decide +kernel) ?_
    refine zw_ireturn f121_6 r121 u121 ⟨_, rfl, ?_⟩
    refine zw_ireturn f180_22 r180 u180 ?_
    exact rfl
set_option maxRecDepth 100000 in
set_option maxHeartbeats 0 in
theorem m_trace_r (ro : UInt32 → Nat × (Nat → Int32)) (x : Nat → va_E) (a : Int32) : zWp ro 181 0 [(0, .ref 52), (1, .int a)] [] (hMx x) 0 0 (fun r _ => r = some (.int (-1))) := by
  refine zw_iload_n 1 f181_0 rfl rfl ?_
  refine zw_iconst 0 2 f181_1 rfl (by decide +kernel) ?_
  refine zw_aload_n 3 f181_2 rfl rfl ?_
  refine zw_getfield 6 f181_3 rfl g181_246_12 (mb_52 x) rfl ?_
  refine zw_bipush 50 8 f181_6 rfl (by decide +kernel) ?_
  refine zw_ic_ge_f 11 18 f181_8 (by decide +kernel) rfl (by decide +kernel) ?_
  refine zw_aload_n 12 f181_11 rfl rfl ?_
  refine zw_getfield 15 f181_12 rfl g181_246_12 (mb_52 x) rfl ?_
  refine zw_goto 20 f181_15 (by decide +kernel) ?_
  refine zw_iconst 1 21 f181_20 rfl (by decide +kernel) ?_
  refine zw_isub (-1) 22 f181_21 rfl (by decide +kernel) ?_
  refine zw_static_i 25 0 0 [.int a, .int 0, .int (-1)] [] [(0, .int a), (1, .int 0), (2, .int (-1))] f181_22 rfl k181_117_99 rfl (by decide +kernel) (Nat.le_of_ble_eq_true rfl) (Nat.le_of_ble_eq_true rfl) rfl rfl (by decide +kernel) (by decide +kernel) rfl (Nat.le_of_ble_eq_true rfl) rfl ?_
  refine zw_iload_n 1 f120_0 rfl rfl ?_
  refine zw_iload_n 2 f120_1 rfl rfl ?_
  refine zw_ic_lt 5 14 f120_2 (by decide +kernel) rfl (fun hc1 => ?_) (fun hc1 => ?_)
  · refine zw_iconst 0 15 f120_14 rfl (by decide +kernel) ?_
    refine zw_zreturn f120_15 r120 u120 (by decide +kernel) ⟨_, rfl, ?_⟩
    refine zw_if_eq_t 37 f181_25 (by decide +kernel) (by decide +kernel) ?_
    refine zw_iconst (-1) 38 f181_37 rfl (by decide +kernel) ?_
    refine zw_ireturn f181_38 r181 u181 ?_
    exact rfl
  · refine zw_iload_n 6 f120_5 rfl rfl ?_
    refine zw_iload_n 7 f120_6 rfl rfl ?_
    refine zw_ic_gt_t 14 f120_7 (by decide +kernel) (zl_m1 hc1) ?_
    refine zw_iconst 0 15 f120_14 rfl (by decide +kernel) ?_
    refine zw_zreturn f120_15 r120 u120 (by decide +kernel) ⟨_, rfl, ?_⟩
    refine zw_if_eq_t 37 f181_25 (by decide +kernel) (by decide +kernel) ?_
    refine zw_iconst (-1) 38 f181_37 rfl (by decide +kernel) ?_
    refine zw_ireturn f181_38 r181 u181 ?_
    exact rfl
set_option maxRecDepth 100000 in
set_option maxHeartbeats 0 in
theorem m_forge_s1 (ro : UInt32 → Nat × (Nat → Int32)) (x : Nat → va_E) (a b c : Int32) (h0 : a < 0) : zWp ro 184 0 [(0, .ref 52), (1, .int a), (2, .int b), (3, .int c)] [] (hMx x) 0 0 (fun r _ => r = some (.int (-1))) := by
  refine zw_iload_n 1 f184_0 rfl rfl ?_
  refine zw_iconst 0 2 f184_1 rfl (by decide +kernel) ?_
  refine zw_bipush 6 4 f184_2 rfl (by decide +kernel) ?_
  refine zw_static_i 7 0 0 [.int a, .int 0, .int 6] [] [(0, .int a), (1, .int 0), (2, .int 6)] f184_4 rfl k184_117_99 rfl (by decide +kernel) (Nat.le_of_ble_eq_true rfl) (Nat.le_of_ble_eq_true rfl) rfl rfl (by decide +kernel) (by decide +kernel) rfl (Nat.le_of_ble_eq_true rfl) rfl ?_
  refine zw_iload_n 1 f120_0 rfl rfl ?_
  refine zw_iload_n 2 f120_1 rfl rfl ?_
  refine zw_ic_lt_t 14 f120_2 (by decide +kernel) h0 ?_
  refine zw_iconst 0 15 f120_14 rfl (by decide +kernel) ?_
  refine zw_zreturn f120_15 r120 u120 (by decide +kernel) ⟨_, rfl, ?_⟩
  refine zw_if_eq_t 32 f184_7 (by decide +kernel) (by decide +kernel) ?_
  refine zw_aload_n 33 f184_32 rfl rfl ?_
  refine zw_iconst 1 34 f184_33 rfl (by decide +kernel) ?_
  refine zw_virtual_i 37 0 0 [.ref 52, .int 1] [(0, .ref 52), (1, .int 1)] f184_34 rfl n184_209 k184_209_12 rfl (mb_52 x) (by decide +kernel) (Nat.le_of_ble_eq_true rfl) rfl rfl (by decide +kernel) (by decide +kernel) rfl (Nat.le_of_ble_eq_true rfl) rfl ?_
  refine zw_aload_n 1 f121_0 rfl rfl ?_
  refine zw_iload_n 2 f121_1 rfl rfl ?_
  refine zw_putfield 5 f121_2 rfl g121_111_12 (mb_52 x) rfl (zg_lt rfl) (by decide +kernel) ?_
  refine zw_iconst (-1) 6 f121_5 rfl (by decide +kernel) ?_
  refine zw_ireturn f121_6 r121 u121 ⟨_, rfl, ?_⟩
  refine zw_ireturn f184_37 r184 u184 ?_
  exact rfl
set_option maxRecDepth 100000 in
set_option maxHeartbeats 0 in
theorem m_forge_s2 (ro : UInt32 → Nat × (Nat → Int32)) (x : Nat → va_E) (a b c : Int32) (h0 : ¬ a < 0) (h9 : 6 < a) : zWp ro 184 0 [(0, .ref 52), (1, .int a), (2, .int b), (3, .int c)] [] (hMx x) 0 0 (fun r _ => r = some (.int (-1))) := by
  refine zw_iload_n 1 f184_0 rfl rfl ?_
  refine zw_iconst 0 2 f184_1 rfl (by decide +kernel) ?_
  refine zw_bipush 6 4 f184_2 rfl (by decide +kernel) ?_
  refine zw_static_i 7 0 0 [.int a, .int 0, .int 6] [] [(0, .int a), (1, .int 0), (2, .int 6)] f184_4 rfl k184_117_99 rfl (by decide +kernel) (Nat.le_of_ble_eq_true rfl) (Nat.le_of_ble_eq_true rfl) rfl rfl (by decide +kernel) (by decide +kernel) rfl (Nat.le_of_ble_eq_true rfl) rfl ?_
  refine zw_iload_n 1 f120_0 rfl rfl ?_
  refine zw_iload_n 2 f120_1 rfl rfl ?_
  refine zw_ic_lt_f 5 14 f120_2 (by decide +kernel) rfl h0 ?_
  refine zw_iload_n 6 f120_5 rfl rfl ?_
  refine zw_iload_n 7 f120_6 rfl rfl ?_
  refine zw_ic_gt_t 14 f120_7 (by decide +kernel) h9 ?_
  refine zw_iconst 0 15 f120_14 rfl (by decide +kernel) ?_
  refine zw_zreturn f120_15 r120 u120 (by decide +kernel) ⟨_, rfl, ?_⟩
  refine zw_if_eq_t 32 f184_7 (by decide +kernel) (by decide +kernel) ?_
  refine zw_aload_n 33 f184_32 rfl rfl ?_
  refine zw_iconst 1 34 f184_33 rfl (by decide +kernel) ?_
  refine zw_virtual_i 37 0 0 [.ref 52, .int 1] [(0, .ref 52), (1, .int 1)] f184_34 rfl n184_209 k184_209_12 rfl (mb_52 x) (by decide +kernel) (Nat.le_of_ble_eq_true rfl) rfl rfl (by decide +kernel) (by decide +kernel) rfl (Nat.le_of_ble_eq_true rfl) rfl ?_
  refine zw_aload_n 1 f121_0 rfl rfl ?_
  refine zw_iload_n 2 f121_1 rfl rfl ?_
  refine zw_putfield 5 f121_2 rfl g121_111_12 (mb_52 x) rfl (zg_lt rfl) (by decide +kernel) ?_
  refine zw_iconst (-1) 6 f121_5 rfl (by decide +kernel) ?_
  refine zw_ireturn f121_6 r121 u121 ⟨_, rfl, ?_⟩
  refine zw_ireturn f184_37 r184 u184 ?_
  exact rfl
set_option maxRecDepth 100000 in
set_option maxHeartbeats 0 in
theorem m_forge_s3 (ro : UInt32 → Nat × (Nat → Int32)) (x : Nat → va_E) (a b c : Int32) (h0 : ¬ a < 0) (h9 : ¬ 6 < a) (h1 : b < -100) : zWp ro 184 0 [(0, .ref 52), (1, .int a), (2, .int b), (3, .int c)] [] (hMx x) 0 0 (fun r _ => r = some (.int (-1))) := by
  refine zw_iload_n 1 f184_0 rfl rfl ?_
  refine zw_iconst 0 2 f184_1 rfl (by decide +kernel) ?_
  refine zw_bipush 6 4 f184_2 rfl (by decide +kernel) ?_
  refine zw_static_i 7 0 0 [.int a, .int 0, .int 6] [] [(0, .int a), (1, .int 0), (2, .int 6)] f184_4 rfl k184_117_99 rfl (by decide +kernel) (Nat.le_of_ble_eq_true rfl) (Nat.le_of_ble_eq_true rfl) rfl rfl (by decide +kernel) (by decide +kernel) rfl (Nat.le_of_ble_eq_true rfl) rfl ?_
  refine zw_iload_n 1 f120_0 rfl rfl ?_
  refine zw_iload_n 2 f120_1 rfl rfl ?_
  refine zw_ic_lt_f 5 14 f120_2 (by decide +kernel) rfl h0 ?_
  refine zw_iload_n 6 f120_5 rfl rfl ?_
  refine zw_iload_n 7 f120_6 rfl rfl ?_
  refine zw_ic_gt_f 10 14 f120_7 (by decide +kernel) rfl h9 ?_
  refine zw_iconst 1 11 f120_10 rfl (by decide +kernel) ?_
  refine zw_goto 15 f120_11 (by decide +kernel) ?_
  refine zw_zreturn f120_15 r120 u120 (by decide +kernel) ⟨_, rfl, ?_⟩
  refine zw_if_eq_f 10 32 f184_7 (by decide +kernel) rfl (by decide +kernel) ?_
  refine zw_iload_n 11 f184_10 rfl rfl ?_
  refine zw_bipush (-100) 13 f184_11 rfl (by decide +kernel) ?_
  refine zw_bipush 100 15 f184_13 rfl (by decide +kernel) ?_
  refine zw_static_i 18 0 0 [.int b, .int (-100), .int 100] [] [(0, .int b), (1, .int (-100)), (2, .int 100)] f184_15 rfl k184_117_99 rfl (by decide +kernel) (Nat.le_of_ble_eq_true rfl) (Nat.le_of_ble_eq_true rfl) rfl rfl (by decide +kernel) (by decide +kernel) rfl (Nat.le_of_ble_eq_true rfl) rfl ?_
  refine zw_iload_n 1 f120_0 rfl rfl ?_
  refine zw_iload_n 2 f120_1 rfl rfl ?_
  refine zw_ic_lt_t 14 f120_2 (by decide +kernel) h1 ?_
  refine zw_iconst 0 15 f120_14 rfl (by decide +kernel) ?_
  refine zw_zreturn f120_15 r120 u120 (by decide +kernel) ⟨_, rfl, ?_⟩
  refine zw_if_eq_t 32 f184_18 (by decide +kernel) (by decide +kernel) ?_
  refine zw_aload_n 33 f184_32 rfl rfl ?_
  refine zw_iconst 1 34 f184_33 rfl (by decide +kernel) ?_
  refine zw_virtual_i 37 0 0 [.ref 52, .int 1] [(0, .ref 52), (1, .int 1)] f184_34 rfl n184_209 k184_209_12 rfl (mb_52 x) (by decide +kernel) (Nat.le_of_ble_eq_true rfl) rfl rfl (by decide +kernel) (by decide +kernel) rfl (Nat.le_of_ble_eq_true rfl) rfl ?_
  refine zw_aload_n 1 f121_0 rfl rfl ?_
  refine zw_iload_n 2 f121_1 rfl rfl ?_
  refine zw_putfield 5 f121_2 rfl g121_111_12 (mb_52 x) rfl (zg_lt rfl) (by decide +kernel) ?_
  refine zw_iconst (-1) 6 f121_5 rfl (by decide +kernel) ?_
  refine zw_ireturn f121_6 r121 u121 ⟨_, rfl, ?_⟩
  refine zw_ireturn f184_37 r184 u184 ?_
  exact rfl
set_option maxRecDepth 100000 in
set_option maxHeartbeats 0 in
theorem m_forge_s4 (ro : UInt32 → Nat × (Nat → Int32)) (x : Nat → va_E) (a b c : Int32) (h0 : ¬ a < 0) (h9 : ¬ 6 < a) (h1 : ¬ b < -100) (h2 : 100 < b) : zWp ro 184 0 [(0, .ref 52), (1, .int a), (2, .int b), (3, .int c)] [] (hMx x) 0 0 (fun r _ => r = some (.int (-1))) := by
  refine zw_iload_n 1 f184_0 rfl rfl ?_
  refine zw_iconst 0 2 f184_1 rfl (by decide +kernel) ?_
  refine zw_bipush 6 4 f184_2 rfl (by decide +kernel) ?_
  refine zw_static_i 7 0 0 [.int a, .int 0, .int 6] [] [(0, .int a), (1, .int 0), (2, .int 6)] f184_4 rfl k184_117_99 rfl (by decide +kernel) (Nat.le_of_ble_eq_true rfl) (Nat.le_of_ble_eq_true rfl) rfl rfl (by decide +kernel) (by decide +kernel) rfl (Nat.le_of_ble_eq_true rfl) rfl ?_
  refine zw_iload_n 1 f120_0 rfl rfl ?_
  refine zw_iload_n 2 f120_1 rfl rfl ?_
  refine zw_ic_lt_f 5 14 f120_2 (by decide +kernel) rfl h0 ?_
  refine zw_iload_n 6 f120_5 rfl rfl ?_
  refine zw_iload_n 7 f120_6 rfl rfl ?_
  refine zw_ic_gt_f 10 14 f120_7 (by decide +kernel) rfl h9 ?_
  refine zw_iconst 1 11 f120_10 rfl (by decide +kernel) ?_
  refine zw_goto 15 f120_11 (by decide +kernel) ?_
  refine zw_zreturn f120_15 r120 u120 (by decide +kernel) ⟨_, rfl, ?_⟩
  refine zw_if_eq_f 10 32 f184_7 (by decide +kernel) rfl (by decide +kernel) ?_
  refine zw_iload_n 11 f184_10 rfl rfl ?_
  refine zw_bipush (-100) 13 f184_11 rfl (by decide +kernel) ?_
  refine zw_bipush 100 15 f184_13 rfl (by decide +kernel) ?_
  refine zw_static_i 18 0 0 [.int b, .int (-100), .int 100] [] [(0, .int b), (1, .int (-100)), (2, .int 100)] f184_15 rfl k184_117_99 rfl (by decide +kernel) (Nat.le_of_ble_eq_true rfl) (Nat.le_of_ble_eq_true rfl) rfl rfl (by decide +kernel) (by decide +kernel) rfl (Nat.le_of_ble_eq_true rfl) rfl ?_
  refine zw_iload_n 1 f120_0 rfl rfl ?_
  refine zw_iload_n 2 f120_1 rfl rfl ?_
  refine zw_ic_lt_f 5 14 f120_2 (by decide +kernel) rfl h1 ?_
  refine zw_iload_n 6 f120_5 rfl rfl ?_
  refine zw_iload_n 7 f120_6 rfl rfl ?_
  refine zw_ic_gt_t 14 f120_7 (by decide +kernel) h2 ?_
  refine zw_iconst 0 15 f120_14 rfl (by decide +kernel) ?_
  refine zw_zreturn f120_15 r120 u120 (by decide +kernel) ⟨_, rfl, ?_⟩
  refine zw_if_eq_t 32 f184_18 (by decide +kernel) (by decide +kernel) ?_
  refine zw_aload_n 33 f184_32 rfl rfl ?_
  refine zw_iconst 1 34 f184_33 rfl (by decide +kernel) ?_
  refine zw_virtual_i 37 0 0 [.ref 52, .int 1] [(0, .ref 52), (1, .int 1)] f184_34 rfl n184_209 k184_209_12 rfl (mb_52 x) (by decide +kernel) (Nat.le_of_ble_eq_true rfl) rfl rfl (by decide +kernel) (by decide +kernel) rfl (Nat.le_of_ble_eq_true rfl) rfl ?_
  refine zw_aload_n 1 f121_0 rfl rfl ?_
  refine zw_iload_n 2 f121_1 rfl rfl ?_
  refine zw_putfield 5 f121_2 rfl g121_111_12 (mb_52 x) rfl (zg_lt rfl) (by decide +kernel) ?_
  refine zw_iconst (-1) 6 f121_5 rfl (by decide +kernel) ?_
  refine zw_ireturn f121_6 r121 u121 ⟨_, rfl, ?_⟩
  refine zw_ireturn f184_37 r184 u184 ?_
  exact rfl
set_option maxRecDepth 100000 in
set_option maxHeartbeats 0 in
theorem m_forge_s5 (ro : UInt32 → Nat × (Nat → Int32)) (x : Nat → va_E) (a b c : Int32) (h0 : ¬ a < 0) (h9 : ¬ 6 < a) (h1 : ¬ b < -100) (h2 : ¬ 100 < b) (h3 : c < -100) : zWp ro 184 0 [(0, .ref 52), (1, .int a), (2, .int b), (3, .int c)] [] (hMx x) 0 0 (fun r _ => r = some (.int (-1))) := by
  refine zw_iload_n 1 f184_0 rfl rfl ?_
  refine zw_iconst 0 2 f184_1 rfl (by decide +kernel) ?_
  refine zw_bipush 6 4 f184_2 rfl (by decide +kernel) ?_
  refine zw_static_i 7 0 0 [.int a, .int 0, .int 6] [] [(0, .int a), (1, .int 0), (2, .int 6)] f184_4 rfl k184_117_99 rfl (by decide +kernel) (Nat.le_of_ble_eq_true rfl) (Nat.le_of_ble_eq_true rfl) rfl rfl (by decide +kernel) (by decide +kernel) rfl (Nat.le_of_ble_eq_true rfl) rfl ?_
  refine zw_iload_n 1 f120_0 rfl rfl ?_
  refine zw_iload_n 2 f120_1 rfl rfl ?_
  refine zw_ic_lt_f 5 14 f120_2 (by decide +kernel) rfl h0 ?_
  refine zw_iload_n 6 f120_5 rfl rfl ?_
  refine zw_iload_n 7 f120_6 rfl rfl ?_
  refine zw_ic_gt_f 10 14 f120_7 (by decide +kernel) rfl h9 ?_
  refine zw_iconst 1 11 f120_10 rfl (by decide +kernel) ?_
  refine zw_goto 15 f120_11 (by decide +kernel) ?_
  refine zw_zreturn f120_15 r120 u120 (by decide +kernel) ⟨_, rfl, ?_⟩
  refine zw_if_eq_f 10 32 f184_7 (by decide +kernel) rfl (by decide +kernel) ?_
  refine zw_iload_n 11 f184_10 rfl rfl ?_
  refine zw_bipush (-100) 13 f184_11 rfl (by decide +kernel) ?_
  refine zw_bipush 100 15 f184_13 rfl (by decide +kernel) ?_
  refine zw_static_i 18 0 0 [.int b, .int (-100), .int 100] [] [(0, .int b), (1, .int (-100)), (2, .int 100)] f184_15 rfl k184_117_99 rfl (by decide +kernel) (Nat.le_of_ble_eq_true rfl) (Nat.le_of_ble_eq_true rfl) rfl rfl (by decide +kernel) (by decide +kernel) rfl (Nat.le_of_ble_eq_true rfl) rfl ?_
  refine zw_iload_n 1 f120_0 rfl rfl ?_
  refine zw_iload_n 2 f120_1 rfl rfl ?_
  refine zw_ic_lt_f 5 14 f120_2 (by decide +kernel) rfl h1 ?_
  refine zw_iload_n 6 f120_5 rfl rfl ?_
  refine zw_iload_n 7 f120_6 rfl rfl ?_
  refine zw_ic_gt_f 10 14 f120_7 (by decide +kernel) rfl h2 ?_
  refine zw_iconst 1 11 f120_10 rfl (by decide +kernel) ?_
  refine zw_goto 15 f120_11 (by decide +kernel) ?_
  refine zw_zreturn f120_15 r120 u120 (by decide +kernel) ⟨_, rfl, ?_⟩
  refine zw_if_eq_f 21 32 f184_18 (by decide +kernel) rfl (by decide +kernel) ?_
  refine zw_iload_n 22 f184_21 rfl rfl ?_
  refine zw_bipush (-100) 24 f184_22 rfl (by decide +kernel) ?_
  refine zw_bipush 100 26 f184_24 rfl (by decide +kernel) ?_
  refine zw_static_i 29 0 0 [.int c, .int (-100), .int 100] [] [(0, .int c), (1, .int (-100)), (2, .int 100)] f184_26 rfl k184_117_99 rfl (by decide +kernel) (Nat.le_of_ble_eq_true rfl) (Nat.le_of_ble_eq_true rfl) rfl rfl (by decide +kernel) (by decide +kernel) rfl (Nat.le_of_ble_eq_true rfl) rfl ?_
  refine zw_iload_n 1 f120_0 rfl rfl ?_
  refine zw_iload_n 2 f120_1 rfl rfl ?_
  refine zw_ic_lt_t 14 f120_2 (by decide +kernel) h3 ?_
  refine zw_iconst 0 15 f120_14 rfl (by decide +kernel) ?_
  refine zw_zreturn f120_15 r120 u120 (by decide +kernel) ⟨_, rfl, ?_⟩
  refine zw_if_ne_f 32 38 f184_29 (by decide +kernel) rfl (by decide +kernel) ?_
  refine zw_aload_n 33 f184_32 rfl rfl ?_
  refine zw_iconst 1 34 f184_33 rfl (by decide +kernel) ?_
  refine zw_virtual_i 37 0 0 [.ref 52, .int 1] [(0, .ref 52), (1, .int 1)] f184_34 rfl n184_209 k184_209_12 rfl (mb_52 x) (by decide +kernel) (Nat.le_of_ble_eq_true rfl) rfl rfl (by decide +kernel) (by decide +kernel) rfl (Nat.le_of_ble_eq_true rfl) rfl ?_
  refine zw_aload_n 1 f121_0 rfl rfl ?_
  refine zw_iload_n 2 f121_1 rfl rfl ?_
  refine zw_putfield 5 f121_2 rfl g121_111_12 (mb_52 x) rfl (zg_lt rfl) (by decide +kernel) ?_
  refine zw_iconst (-1) 6 f121_5 rfl (by decide +kernel) ?_
  refine zw_ireturn f121_6 r121 u121 ⟨_, rfl, ?_⟩
  refine zw_ireturn f184_37 r184 u184 ?_
  exact rfl
set_option maxRecDepth 100000 in
set_option maxHeartbeats 0 in
theorem m_forge_s6 (ro : UInt32 → Nat × (Nat → Int32)) (x : Nat → va_E) (a b c : Int32) (h0 : ¬ a < 0) (h9 : ¬ 6 < a) (h1 : ¬ b < -100) (h2 : ¬ 100 < b) (h3 : ¬ c < -100) (h4 : 100 < c) : zWp ro 184 0 [(0, .ref 52), (1, .int a), (2, .int b), (3, .int c)] [] (hMx x) 0 0 (fun r _ => r = some (.int (-1))) := by
  refine zw_iload_n 1 f184_0 rfl rfl ?_
  refine zw_iconst 0 2 f184_1 rfl (by decide +kernel) ?_
  refine zw_bipush 6 4 f184_2 rfl (by decide +kernel) ?_
  refine zw_static_i 7 0 0 [.int a, .int 0, .int 6] [] [(0, .int a), (1, .int 0), (2, .int 6)] f184_4 rfl k184_117_99 rfl (by decide +kernel) (Nat.le_of_ble_eq_true rfl) (Nat.le_of_ble_eq_true rfl) rfl rfl (by decide +kernel) (by decide +kernel) rfl (Nat.le_of_ble_eq_true rfl) rfl ?_
  refine zw_iload_n 1 f120_0 rfl rfl ?_
  refine zw_iload_n 2 f120_1 rfl rfl ?_
  refine zw_ic_lt_f 5 14 f120_2 (by decide +kernel) rfl h0 ?_
  refine zw_iload_n 6 f120_5 rfl rfl ?_
  refine zw_iload_n 7 f120_6 rfl rfl ?_
  refine zw_ic_gt_f 10 14 f120_7 (by decide +kernel) rfl h9 ?_
  refine zw_iconst 1 11 f120_10 rfl (by decide +kernel) ?_
  refine zw_goto 15 f120_11 (by decide +kernel) ?_
  refine zw_zreturn f120_15 r120 u120 (by decide +kernel) ⟨_, rfl, ?_⟩
  refine zw_if_eq_f 10 32 f184_7 (by decide +kernel) rfl (by decide +kernel) ?_
  refine zw_iload_n 11 f184_10 rfl rfl ?_
  refine zw_bipush (-100) 13 f184_11 rfl (by decide +kernel) ?_
  refine zw_bipush 100 15 f184_13 rfl (by decide +kernel) ?_
  refine zw_static_i 18 0 0 [.int b, .int (-100), .int 100] [] [(0, .int b), (1, .int (-100)), (2, .int 100)] f184_15 rfl k184_117_99 rfl (by decide +kernel) (Nat.le_of_ble_eq_true rfl) (Nat.le_of_ble_eq_true rfl) rfl rfl (by decide +kernel) (by decide +kernel) rfl (Nat.le_of_ble_eq_true rfl) rfl ?_
  refine zw_iload_n 1 f120_0 rfl rfl ?_
  refine zw_iload_n 2 f120_1 rfl rfl ?_
  refine zw_ic_lt_f 5 14 f120_2 (by decide +kernel) rfl h1 ?_
  refine zw_iload_n 6 f120_5 rfl rfl ?_
  refine zw_iload_n 7 f120_6 rfl rfl ?_
  refine zw_ic_gt_f 10 14 f120_7 (by decide +kernel) rfl h2 ?_
  refine zw_iconst 1 11 f120_10 rfl (by decide +kernel) ?_
  refine zw_goto 15 f120_11 (by decide +kernel) ?_
  refine zw_zreturn f120_15 r120 u120 (by decide +kernel) ⟨_, rfl, ?_⟩
  refine zw_if_eq_f 21 32 f184_18 (by decide +kernel) rfl (by decide +kernel) ?_
  refine zw_iload_n 22 f184_21 rfl rfl ?_
  refine zw_bipush (-100) 24 f184_22 rfl (by decide +kernel) ?_
  refine zw_bipush 100 26 f184_24 rfl (by decide +kernel) ?_
  refine zw_static_i 29 0 0 [.int c, .int (-100), .int 100] [] [(0, .int c), (1, .int (-100)), (2, .int 100)] f184_26 rfl k184_117_99 rfl (by decide +kernel) (Nat.le_of_ble_eq_true rfl) (Nat.le_of_ble_eq_true rfl) rfl rfl (by decide +kernel) (by decide +kernel) rfl (Nat.le_of_ble_eq_true rfl) rfl ?_
  refine zw_iload_n 1 f120_0 rfl rfl ?_
  refine zw_iload_n 2 f120_1 rfl rfl ?_
  refine zw_ic_lt_f 5 14 f120_2 (by decide +kernel) rfl h3 ?_
  refine zw_iload_n 6 f120_5 rfl rfl ?_
  refine zw_iload_n 7 f120_6 rfl rfl ?_
  refine zw_ic_gt_t 14 f120_7 (by decide +kernel) h4 ?_
  refine zw_iconst 0 15 f120_14 rfl (by decide +kernel) ?_
  refine zw_zreturn f120_15 r120 u120 (by decide +kernel) ⟨_, rfl, ?_⟩
  refine zw_if_ne_f 32 38 f184_29 (by decide +kernel) rfl (by decide +kernel) ?_
  refine zw_aload_n 33 f184_32 rfl rfl ?_
  refine zw_iconst 1 34 f184_33 rfl (by decide +kernel) ?_
  refine zw_virtual_i 37 0 0 [.ref 52, .int 1] [(0, .ref 52), (1, .int 1)] f184_34 rfl n184_209 k184_209_12 rfl (mb_52 x) (by decide +kernel) (Nat.le_of_ble_eq_true rfl) rfl rfl (by decide +kernel) (by decide +kernel) rfl (Nat.le_of_ble_eq_true rfl) rfl ?_
  refine zw_aload_n 1 f121_0 rfl rfl ?_
  refine zw_iload_n 2 f121_1 rfl rfl ?_
  refine zw_putfield 5 f121_2 rfl g121_111_12 (mb_52 x) rfl (zg_lt rfl) (by decide +kernel) ?_
  refine zw_iconst (-1) 6 f121_5 rfl (by decide +kernel) ?_
  refine zw_ireturn f121_6 r121 u121 ⟨_, rfl, ?_⟩
  refine zw_ireturn f184_37 r184 u184 ?_
  exact rfl
set_option maxRecDepth 100000 in
set_option maxHeartbeats 0 in
theorem m_forge_w0 (ro : UInt32 → Nat × (Nat → Int32)) (x : Nat → va_E) (b c : Int32) (h1 : ¬ b < -100) (h2 : ¬ 100 < b) (h3 : ¬ c < -100) (h4 : ¬ 100 < c) : zWp ro 184 0 [(0, .ref 52), (1, .int 0), (2, .int b), (3, .int c)] [] (hMx x) 0 0 (fun r _ => r = some (.int (-1))) := by
  refine zw_iload_n 1 f184_0 rfl rfl ?_
  refine zw_iconst 0 2 f184_1 rfl (by decide +kernel) ?_
  refine zw_bipush 6 4 f184_2 rfl (by decide +kernel) ?_
  refine zw_static_i 7 0 0 [.int 0, .int 0, .int 6] [] [(0, .int 0), (1, .int 0), (2, .int 6)] f184_4 rfl k184_117_99 rfl (by decide +kernel) (Nat.le_of_ble_eq_true rfl) (Nat.le_of_ble_eq_true rfl) rfl rfl (by decide +kernel) (by decide +kernel) rfl (Nat.le_of_ble_eq_true rfl) rfl ?_
  refine zw_iload_n 1 f120_0 rfl rfl ?_
  refine zw_iload_n 2 f120_1 rfl rfl ?_
  refine zw_ic_lt_f 5 14 f120_2 (by decide +kernel) rfl (by decide +kernel) ?_
  refine zw_iload_n 6 f120_5 rfl rfl ?_
  refine zw_iload_n 7 f120_6 rfl rfl ?_
  refine zw_ic_gt_f 10 14 f120_7 (by decide +kernel) rfl (by decide +kernel) ?_
  refine zw_iconst 1 11 f120_10 rfl (by decide +kernel) ?_
  refine zw_goto 15 f120_11 (by decide +kernel) ?_
  refine zw_zreturn f120_15 r120 u120 (by decide +kernel) ⟨_, rfl, ?_⟩
  refine zw_if_eq_f 10 32 f184_7 (by decide +kernel) rfl (by decide +kernel) ?_
  refine zw_iload_n 11 f184_10 rfl rfl ?_
  refine zw_bipush (-100) 13 f184_11 rfl (by decide +kernel) ?_
  refine zw_bipush 100 15 f184_13 rfl (by decide +kernel) ?_
  refine zw_static_i 18 0 0 [.int b, .int (-100), .int 100] [] [(0, .int b), (1, .int (-100)), (2, .int 100)] f184_15 rfl k184_117_99 rfl (by decide +kernel) (Nat.le_of_ble_eq_true rfl) (Nat.le_of_ble_eq_true rfl) rfl rfl (by decide +kernel) (by decide +kernel) rfl (Nat.le_of_ble_eq_true rfl) rfl ?_
  refine zw_iload_n 1 f120_0 rfl rfl ?_
  refine zw_iload_n 2 f120_1 rfl rfl ?_
  refine zw_ic_lt_f 5 14 f120_2 (by decide +kernel) rfl h1 ?_
  refine zw_iload_n 6 f120_5 rfl rfl ?_
  refine zw_iload_n 7 f120_6 rfl rfl ?_
  refine zw_ic_gt_f 10 14 f120_7 (by decide +kernel) rfl h2 ?_
  refine zw_iconst 1 11 f120_10 rfl (by decide +kernel) ?_
  refine zw_goto 15 f120_11 (by decide +kernel) ?_
  refine zw_zreturn f120_15 r120 u120 (by decide +kernel) ⟨_, rfl, ?_⟩
  refine zw_if_eq_f 21 32 f184_18 (by decide +kernel) rfl (by decide +kernel) ?_
  refine zw_iload_n 22 f184_21 rfl rfl ?_
  refine zw_bipush (-100) 24 f184_22 rfl (by decide +kernel) ?_
  refine zw_bipush 100 26 f184_24 rfl (by decide +kernel) ?_
  refine zw_static_i 29 0 0 [.int c, .int (-100), .int 100] [] [(0, .int c), (1, .int (-100)), (2, .int 100)] f184_26 rfl k184_117_99 rfl (by decide +kernel) (Nat.le_of_ble_eq_true rfl) (Nat.le_of_ble_eq_true rfl) rfl rfl (by decide +kernel) (by decide +kernel) rfl (Nat.le_of_ble_eq_true rfl) rfl ?_
  refine zw_iload_n 1 f120_0 rfl rfl ?_
  refine zw_iload_n 2 f120_1 rfl rfl ?_
  refine zw_ic_lt_f 5 14 f120_2 (by decide +kernel) rfl h3 ?_
  refine zw_iload_n 6 f120_5 rfl rfl ?_
  refine zw_iload_n 7 f120_6 rfl rfl ?_
  refine zw_ic_gt_f 10 14 f120_7 (by decide +kernel) rfl h4 ?_
  refine zw_iconst 1 11 f120_10 rfl (by decide +kernel) ?_
  refine zw_goto 15 f120_11 (by decide +kernel) ?_
  refine zw_zreturn f120_15 r120 u120 (by decide +kernel) ⟨_, rfl, ?_⟩
  refine zw_if_ne_t 38 f184_29 (by decide +kernel) (by decide +kernel) ?_
  refine zw_iload_n 39 f184_38 rfl rfl ?_
  refine zw_bipush 8 41 f184_39 rfl (by decide +kernel) ?_
  refine zw_static_i 44 0 0 [.int c, .int 8] [] [(0, .int c), (1, .int 8)] f184_41 rfl k184_313_99 rfl (by decide +kernel) (Nat.le_of_ble_eq_true rfl) (Nat.le_of_ble_eq_true rfl) rfl rfl (by decide +kernel) (by decide +kernel) rfl (Nat.le_of_ble_eq_true rfl) rfl ?_
  refine zw_iload_n 1 f182_0 rfl rfl ?_
  refine zw_iload_n 2 f182_1 rfl rfl ?_
  refine zw_irem (c - c / 8 * 8) 3 f182_2 rfl (by decide +kernel) rfl ?_
  refine zw_iload_n 4 f182_3 rfl rfl ?_
  refine zw_iadd ((c - c / 8 * 8) + 8) 5 f182_4 rfl rfl ?_
  refine zw_iload_n 6 f182_5 rfl rfl ?_
  refine zw_irem (((c - c / 8 * 8) + 8) - ((c - c / 8 * 8) + 8) / 8 * 8) 7 f182_6 rfl (by decide +kernel) rfl ?_
  refine zw_ireturn f182_7 r182 u182 ⟨_, rfl, ?_⟩
  refine zw_istore [(4, .int (((c - c / 8 * 8) + 8) - ((c - c / 8 * 8) + 8) / 8 * 8)), (0, .ref 52), (1, .int 0), (2, .int b), (3, .int c)] 46 f184_44 rfl (by decide +kernel) rfl ?_
  refine zw_iload_n 47 f184_46 rfl rfl ?_
  refine zw_table_i (off := 37) 84 f184_47 (by decide +kernel) (by decide +kernel) (by decide +kernel) ?_
  refine zw_iload_n 85 f184_84 rfl rfl ?_
  refine zw_iconst 5 86 f184_85 rfl (by decide +kernel) ?_
  refine zw_static_i 89 0 0 [.int b, .int 5] [] [(0, .int b), (1, .int 5)] f184_86 rfl k184_313_99 rfl (by decide +kernel) (Nat.le_of_ble_eq_true rfl) (Nat.le_of_ble_eq_true rfl) rfl rfl (by decide +kernel) (by decide +kernel) rfl (Nat.le_of_ble_eq_true rfl) rfl ?_
  refine zw_iload_n 1 f182_0 rfl rfl ?_
  refine zw_iload_n 2 f182_1 rfl rfl ?_
  refine zw_irem (b - b / 5 * 5) 3 f182_2 rfl (by decide +kernel) rfl ?_
  refine zw_iload_n 4 f182_3 rfl rfl ?_
  refine zw_iadd ((b - b / 5 * 5) + 5) 5 f182_4 rfl rfl ?_
  refine zw_iload_n 6 f182_5 rfl rfl ?_
  refine zw_irem (((b - b / 5 * 5) + 5) - ((b - b / 5 * 5) + 5) / 5 * 5) 7 f182_6 rfl (by decide +kernel) rfl ?_
  refine zw_ireturn f182_7 r182 u182 ⟨_, rfl, ?_⟩
  refine zw_istore [(5, .int (((b - b / 5 * 5) + 5) - ((b - b / 5 * 5) + 5) / 5 * 5)), (4, .int (((c - c / 8 * 8) + 8) - ((c - c / 8 * 8) + 8) / 8 * 8)), (0, .ref 52), (1, .int 0), (2, .int b), (3, .int c)] 91 f184_89 rfl (by decide +kernel) rfl ?_
  refine zw_aload_n 92 f184_91 rfl rfl ?_
  refine zw_iload 94 f184_92 rfl rfl ?_
  refine zw_virtual_i 97 0 0 [.ref 52, .int (((c - c / 8 * 8) + 8) - ((c - c / 8 * 8) + 8) / 8 * 8)] [(0, .ref 52), (1, .int (((c - c / 8 * 8) + 8) - ((c - c / 8 * 8) + 8) / 8 * 8))] f184_94 rfl n184_215 k184_215_12 rfl (mb_52 x) (by decide +kernel) (Nat.le_of_ble_eq_true rfl) rfl rfl (by decide +kernel) (by decide +kernel) rfl (Nat.le_of_ble_eq_true rfl) rfl ?_
  refine zw_iload_n 1 f123_0 rfl rfl ?_
  refine zw_iconst 0 2 f123_1 rfl (by decide +kernel) ?_
  refine zw_aload_n 3 f123_2 rfl rfl ?_
  refine zw_getfield 6 f123_3 rfl g123_114_12 (mb_52 x) rfl ?_
  refine zw_iconst 1 7 f123_6 rfl (by decide +kernel) ?_
  refine zw_isub (-1) 8 f123_7 rfl (by decide +kernel) ?_
  refine zw_static_i 11 0 0 [.int (((c - c / 8 * 8) + 8) - ((c - c / 8 * 8) + 8) / 8 * 8), .int 0, .int (-1)] [] [(0, .int (((c - c / 8 * 8) + 8) - ((c - c / 8 * 8) + 8) / 8 * 8)), (1, .int 0), (2, .int (-1))] f123_8 rfl k123_117_99 rfl (by decide +kernel) (Nat.le_of_ble_eq_true rfl) (Nat.le_of_ble_eq_true rfl) rfl rfl (by decide +kernel) (by decide +kernel) rfl (Nat.le_of_ble_eq_true rfl) rfl ?_
  refine zw_iload_n 1 f120_0 rfl rfl ?_
  refine zw_iload_n 2 f120_1 rfl rfl ?_
  refine zw_ic_lt 5 14 f120_2 (by decide +kernel) rfl (fun hc1 => ?_) (fun hc1 => ?_)
  · refine zw_iconst 0 15 f120_14 rfl (by decide +kernel) ?_
    refine zw_zreturn f120_15 r120 u120 (by decide +kernel) ⟨_, rfl, ?_⟩
    refine zw_zreturn f123_11 r123 u123 (by decide +kernel) ⟨_, rfl, ?_⟩
    refine zw_if_ne_f 100 107 f184_97 (by decide +kernel) rfl (by decide +kernel) ?_
    refine zw_aload_n 101 f184_100 rfl rfl ?_
    refine zw_bipush 10 103 f184_101 rfl (by decide +kernel) ?_
    refine zw_virtual_i 106 0 0 [.ref 52, .int 10] [(0, .ref 52), (1, .int 10)] f184_103 rfl n184_209 k184_209_12 rfl (mb_52 x) (by decide +kernel) (Nat.le_of_ble_eq_true rfl) rfl rfl (by decide +kernel) (by decide +kernel) rfl (Nat.le_of_ble_eq_true rfl) rfl ?_
    refine zw_aload_n 1 f121_0 rfl rfl ?_
    refine zw_iload_n 2 f121_1 rfl rfl ?_
    refine zw_putfield 5 f121_2 rfl g121_111_12 (mb_52 x) rfl (zg_lt rfl) (by decide +kernel) ?_
    refine zw_iconst (-1) 6 f121_5 rfl (by decide +kernel) ?_
    refine zw_ireturn f121_6 r121 u121 ⟨_, rfl, ?_⟩
    refine zw_ireturn f184_106 r184 u184 ?_
    exact rfl
  · refine zw_iload_n 6 f120_5 rfl rfl ?_
    refine zw_iload_n 7 f120_6 rfl rfl ?_
    refine zw_ic_gt_t 14 f120_7 (by decide +kernel) (zl_m1 hc1) ?_
    refine zw_iconst 0 15 f120_14 rfl (by decide +kernel) ?_
    refine zw_zreturn f120_15 r120 u120 (by decide +kernel) ⟨_, rfl, ?_⟩
    refine zw_zreturn f123_11 r123 u123 (by decide +kernel) ⟨_, rfl, ?_⟩
    refine zw_if_ne_f 100 107 f184_97 (by decide +kernel) rfl (by decide +kernel) ?_
    refine zw_aload_n 101 f184_100 rfl rfl ?_
    refine zw_bipush 10 103 f184_101 rfl (by decide +kernel) ?_
    refine zw_virtual_i 106 0 0 [.ref 52, .int 10] [(0, .ref 52), (1, .int 10)] f184_103 rfl n184_209 k184_209_12 rfl (mb_52 x) (by decide +kernel) (Nat.le_of_ble_eq_true rfl) rfl rfl (by decide +kernel) (by decide +kernel) rfl (Nat.le_of_ble_eq_true rfl) rfl ?_
    refine zw_aload_n 1 f121_0 rfl rfl ?_
    refine zw_iload_n 2 f121_1 rfl rfl ?_
    refine zw_putfield 5 f121_2 rfl g121_111_12 (mb_52 x) rfl (zg_lt rfl) (by decide +kernel) ?_
    refine zw_iconst (-1) 6 f121_5 rfl (by decide +kernel) ?_
    refine zw_ireturn f121_6 r121 u121 ⟨_, rfl, ?_⟩
    refine zw_ireturn f184_106 r184 u184 ?_
    exact rfl
set_option maxRecDepth 100000 in
set_option maxHeartbeats 0 in
theorem m_forge_w1n (ro : UInt32 → Nat × (Nat → Int32)) (x : Nat → va_E) (b c : Int32) (h1 : ¬ b < -100) (h2 : ¬ 100 < b) (h3 : ¬ c < -100) (h4 : ¬ 100 < c) (h5 : b < 0) : zWp ro 184 0 [(0, .ref 52), (1, .int 1), (2, .int b), (3, .int c)] [] (hMx x) 0 0 (fun r _ => r = some (.int (-1))) := by
  refine zw_iload_n 1 f184_0 rfl rfl ?_
  refine zw_iconst 0 2 f184_1 rfl (by decide +kernel) ?_
  refine zw_bipush 6 4 f184_2 rfl (by decide +kernel) ?_
  refine zw_static_i 7 0 0 [.int 1, .int 0, .int 6] [] [(0, .int 1), (1, .int 0), (2, .int 6)] f184_4 rfl k184_117_99 rfl (by decide +kernel) (Nat.le_of_ble_eq_true rfl) (Nat.le_of_ble_eq_true rfl) rfl rfl (by decide +kernel) (by decide +kernel) rfl (Nat.le_of_ble_eq_true rfl) rfl ?_
  refine zw_iload_n 1 f120_0 rfl rfl ?_
  refine zw_iload_n 2 f120_1 rfl rfl ?_
  refine zw_ic_lt_f 5 14 f120_2 (by decide +kernel) rfl (by decide +kernel) ?_
  refine zw_iload_n 6 f120_5 rfl rfl ?_
  refine zw_iload_n 7 f120_6 rfl rfl ?_
  refine zw_ic_gt_f 10 14 f120_7 (by decide +kernel) rfl (by decide +kernel) ?_
  refine zw_iconst 1 11 f120_10 rfl (by decide +kernel) ?_
  refine zw_goto 15 f120_11 (by decide +kernel) ?_
  refine zw_zreturn f120_15 r120 u120 (by decide +kernel) ⟨_, rfl, ?_⟩
  refine zw_if_eq_f 10 32 f184_7 (by decide +kernel) rfl (by decide +kernel) ?_
  refine zw_iload_n 11 f184_10 rfl rfl ?_
  refine zw_bipush (-100) 13 f184_11 rfl (by decide +kernel) ?_
  refine zw_bipush 100 15 f184_13 rfl (by decide +kernel) ?_
  refine zw_static_i 18 0 0 [.int b, .int (-100), .int 100] [] [(0, .int b), (1, .int (-100)), (2, .int 100)] f184_15 rfl k184_117_99 rfl (by decide +kernel) (Nat.le_of_ble_eq_true rfl) (Nat.le_of_ble_eq_true rfl) rfl rfl (by decide +kernel) (by decide +kernel) rfl (Nat.le_of_ble_eq_true rfl) rfl ?_
  refine zw_iload_n 1 f120_0 rfl rfl ?_
  refine zw_iload_n 2 f120_1 rfl rfl ?_
  refine zw_ic_lt_f 5 14 f120_2 (by decide +kernel) rfl h1 ?_
  refine zw_iload_n 6 f120_5 rfl rfl ?_
  refine zw_iload_n 7 f120_6 rfl rfl ?_
  refine zw_ic_gt_f 10 14 f120_7 (by decide +kernel) rfl h2 ?_
  refine zw_iconst 1 11 f120_10 rfl (by decide +kernel) ?_
  refine zw_goto 15 f120_11 (by decide +kernel) ?_
  refine zw_zreturn f120_15 r120 u120 (by decide +kernel) ⟨_, rfl, ?_⟩
  refine zw_if_eq_f 21 32 f184_18 (by decide +kernel) rfl (by decide +kernel) ?_
  refine zw_iload_n 22 f184_21 rfl rfl ?_
  refine zw_bipush (-100) 24 f184_22 rfl (by decide +kernel) ?_
  refine zw_bipush 100 26 f184_24 rfl (by decide +kernel) ?_
  refine zw_static_i 29 0 0 [.int c, .int (-100), .int 100] [] [(0, .int c), (1, .int (-100)), (2, .int 100)] f184_26 rfl k184_117_99 rfl (by decide +kernel) (Nat.le_of_ble_eq_true rfl) (Nat.le_of_ble_eq_true rfl) rfl rfl (by decide +kernel) (by decide +kernel) rfl (Nat.le_of_ble_eq_true rfl) rfl ?_
  refine zw_iload_n 1 f120_0 rfl rfl ?_
  refine zw_iload_n 2 f120_1 rfl rfl ?_
  refine zw_ic_lt_f 5 14 f120_2 (by decide +kernel) rfl h3 ?_
  refine zw_iload_n 6 f120_5 rfl rfl ?_
  refine zw_iload_n 7 f120_6 rfl rfl ?_
  refine zw_ic_gt_f 10 14 f120_7 (by decide +kernel) rfl h4 ?_
  refine zw_iconst 1 11 f120_10 rfl (by decide +kernel) ?_
  refine zw_goto 15 f120_11 (by decide +kernel) ?_
  refine zw_zreturn f120_15 r120 u120 (by decide +kernel) ⟨_, rfl, ?_⟩
  refine zw_if_ne_t 38 f184_29 (by decide +kernel) (by decide +kernel) ?_
  refine zw_iload_n 39 f184_38 rfl rfl ?_
  refine zw_bipush 8 41 f184_39 rfl (by decide +kernel) ?_
  refine zw_static_i 44 0 0 [.int c, .int 8] [] [(0, .int c), (1, .int 8)] f184_41 rfl k184_313_99 rfl (by decide +kernel) (Nat.le_of_ble_eq_true rfl) (Nat.le_of_ble_eq_true rfl) rfl rfl (by decide +kernel) (by decide +kernel) rfl (Nat.le_of_ble_eq_true rfl) rfl ?_
  refine zw_iload_n 1 f182_0 rfl rfl ?_
  refine zw_iload_n 2 f182_1 rfl rfl ?_
  refine zw_irem (c - c / 8 * 8) 3 f182_2 rfl (by decide +kernel) rfl ?_
  refine zw_iload_n 4 f182_3 rfl rfl ?_
  refine zw_iadd ((c - c / 8 * 8) + 8) 5 f182_4 rfl rfl ?_
  refine zw_iload_n 6 f182_5 rfl rfl ?_
  refine zw_irem (((c - c / 8 * 8) + 8) - ((c - c / 8 * 8) + 8) / 8 * 8) 7 f182_6 rfl (by decide +kernel) rfl ?_
  refine zw_ireturn f182_7 r182 u182 ⟨_, rfl, ?_⟩
  refine zw_istore [(4, .int (((c - c / 8 * 8) + 8) - ((c - c / 8 * 8) + 8) / 8 * 8)), (0, .ref 52), (1, .int 1), (2, .int b), (3, .int c)] 46 f184_44 rfl (by decide +kernel) rfl ?_
  refine zw_iload_n 47 f184_46 rfl rfl ?_
  refine zw_table_i (off := 115) 162 f184_47 (by decide +kernel) (by decide +kernel) (by decide +kernel) ?_
  refine zw_iload_n 163 f184_162 rfl rfl ?_
  refine zw_if_ge_f 166 175 f184_163 (by decide +kernel) rfl (Int32.not_le.mpr h5) ?_
  refine zw_aload_n 167 f184_166 rfl rfl ?_
  refine zw_bipush 13 169 f184_167 rfl (by decide +kernel) ?_
  refine zw_virtual_i 172 0 0 [.ref 52, .int 13] [(0, .ref 52), (1, .int 13)] f184_169 rfl n184_209 k184_209_12 rfl (mb_52 x) (by decide +kernel) (Nat.le_of_ble_eq_true rfl) rfl rfl (by decide +kernel) (by decide +kernel) rfl (Nat.le_of_ble_eq_true rfl) rfl ?_
  refine zw_aload_n 1 f121_0 rfl rfl ?_
  refine zw_iload_n 2 f121_1 rfl rfl ?_
  refine zw_putfield 5 f121_2 rfl g121_111_12 (mb_52 x) rfl (zg_lt rfl) (by decide +kernel) ?_
  refine zw_iconst (-1) 6 f121_5 rfl (by decide +kernel) ?_
  refine zw_ireturn f121_6 r121 u121 ⟨_, rfl, ?_⟩
  refine zw_goto 180 f184_172 (by decide +kernel) ?_
  refine zw_ireturn f184_180 r184 u184 ?_
  exact rfl
set_option maxRecDepth 100000 in
set_option maxHeartbeats 0 in
theorem m_forge_w1p (ro : UInt32 → Nat × (Nat → Int32)) (x : Nat → va_E) (b c : Int32) (h1 : ¬ b < -100) (h2 : ¬ 100 < b) (h3 : ¬ c < -100) (h4 : ¬ 100 < c) (h5 : ¬ b < 0) : zWp ro 184 0 [(0, .ref 52), (1, .int 1), (2, .int b), (3, .int c)] [] (hMx x) 0 0 (fun r _ => r = some (.int b)) := by
  refine zw_iload_n 1 f184_0 rfl rfl ?_
  refine zw_iconst 0 2 f184_1 rfl (by decide +kernel) ?_
  refine zw_bipush 6 4 f184_2 rfl (by decide +kernel) ?_
  refine zw_static_i 7 0 0 [.int 1, .int 0, .int 6] [] [(0, .int 1), (1, .int 0), (2, .int 6)] f184_4 rfl k184_117_99 rfl (by decide +kernel) (Nat.le_of_ble_eq_true rfl) (Nat.le_of_ble_eq_true rfl) rfl rfl (by decide +kernel) (by decide +kernel) rfl (Nat.le_of_ble_eq_true rfl) rfl ?_
  refine zw_iload_n 1 f120_0 rfl rfl ?_
  refine zw_iload_n 2 f120_1 rfl rfl ?_
  refine zw_ic_lt_f 5 14 f120_2 (by decide +kernel) rfl (by decide +kernel) ?_
  refine zw_iload_n 6 f120_5 rfl rfl ?_
  refine zw_iload_n 7 f120_6 rfl rfl ?_
  refine zw_ic_gt_f 10 14 f120_7 (by decide +kernel) rfl (by decide +kernel) ?_
  refine zw_iconst 1 11 f120_10 rfl (by decide +kernel) ?_
  refine zw_goto 15 f120_11 (by decide +kernel) ?_
  refine zw_zreturn f120_15 r120 u120 (by decide +kernel) ⟨_, rfl, ?_⟩
  refine zw_if_eq_f 10 32 f184_7 (by decide +kernel) rfl (by decide +kernel) ?_
  refine zw_iload_n 11 f184_10 rfl rfl ?_
  refine zw_bipush (-100) 13 f184_11 rfl (by decide +kernel) ?_
  refine zw_bipush 100 15 f184_13 rfl (by decide +kernel) ?_
  refine zw_static_i 18 0 0 [.int b, .int (-100), .int 100] [] [(0, .int b), (1, .int (-100)), (2, .int 100)] f184_15 rfl k184_117_99 rfl (by decide +kernel) (Nat.le_of_ble_eq_true rfl) (Nat.le_of_ble_eq_true rfl) rfl rfl (by decide +kernel) (by decide +kernel) rfl (Nat.le_of_ble_eq_true rfl) rfl ?_
  refine zw_iload_n 1 f120_0 rfl rfl ?_
  refine zw_iload_n 2 f120_1 rfl rfl ?_
  refine zw_ic_lt_f 5 14 f120_2 (by decide +kernel) rfl h1 ?_
  refine zw_iload_n 6 f120_5 rfl rfl ?_
  refine zw_iload_n 7 f120_6 rfl rfl ?_
  refine zw_ic_gt_f 10 14 f120_7 (by decide +kernel) rfl h2 ?_
  refine zw_iconst 1 11 f120_10 rfl (by decide +kernel) ?_
  refine zw_goto 15 f120_11 (by decide +kernel) ?_
  refine zw_zreturn f120_15 r120 u120 (by decide +kernel) ⟨_, rfl, ?_⟩
  refine zw_if_eq_f 21 32 f184_18 (by decide +kernel) rfl (by decide +kernel) ?_
  refine zw_iload_n 22 f184_21 rfl rfl ?_
  refine zw_bipush (-100) 24 f184_22 rfl (by decide +kernel) ?_
  refine zw_bipush 100 26 f184_24 rfl (by decide +kernel) ?_
  refine zw_static_i 29 0 0 [.int c, .int (-100), .int 100] [] [(0, .int c), (1, .int (-100)), (2, .int 100)] f184_26 rfl k184_117_99 rfl (by decide +kernel) (Nat.le_of_ble_eq_true rfl) (Nat.le_of_ble_eq_true rfl) rfl rfl (by decide +kernel) (by decide +kernel) rfl (Nat.le_of_ble_eq_true rfl) rfl ?_
  refine zw_iload_n 1 f120_0 rfl rfl ?_
  refine zw_iload_n 2 f120_1 rfl rfl ?_
  refine zw_ic_lt_f 5 14 f120_2 (by decide +kernel) rfl h3 ?_
  refine zw_iload_n 6 f120_5 rfl rfl ?_
  refine zw_iload_n 7 f120_6 rfl rfl ?_
  refine zw_ic_gt_f 10 14 f120_7 (by decide +kernel) rfl h4 ?_
  refine zw_iconst 1 11 f120_10 rfl (by decide +kernel) ?_
  refine zw_goto 15 f120_11 (by decide +kernel) ?_
  refine zw_zreturn f120_15 r120 u120 (by decide +kernel) ⟨_, rfl, ?_⟩
  refine zw_if_ne_t 38 f184_29 (by decide +kernel) (by decide +kernel) ?_
  refine zw_iload_n 39 f184_38 rfl rfl ?_
  refine zw_bipush 8 41 f184_39 rfl (by decide +kernel) ?_
  refine zw_static_i 44 0 0 [.int c, .int 8] [] [(0, .int c), (1, .int 8)] f184_41 rfl k184_313_99 rfl (by decide +kernel) (Nat.le_of_ble_eq_true rfl) (Nat.le_of_ble_eq_true rfl) rfl rfl (by decide +kernel) (by decide +kernel) rfl (Nat.le_of_ble_eq_true rfl) rfl ?_
  refine zw_iload_n 1 f182_0 rfl rfl ?_
  refine zw_iload_n 2 f182_1 rfl rfl ?_
  refine zw_irem (c - c / 8 * 8) 3 f182_2 rfl (by decide +kernel) rfl ?_
  refine zw_iload_n 4 f182_3 rfl rfl ?_
  refine zw_iadd ((c - c / 8 * 8) + 8) 5 f182_4 rfl rfl ?_
  refine zw_iload_n 6 f182_5 rfl rfl ?_
  refine zw_irem (((c - c / 8 * 8) + 8) - ((c - c / 8 * 8) + 8) / 8 * 8) 7 f182_6 rfl (by decide +kernel) rfl ?_
  refine zw_ireturn f182_7 r182 u182 ⟨_, rfl, ?_⟩
  refine zw_istore [(4, .int (((c - c / 8 * 8) + 8) - ((c - c / 8 * 8) + 8) / 8 * 8)), (0, .ref 52), (1, .int 1), (2, .int b), (3, .int c)] 46 f184_44 rfl (by decide +kernel) rfl ?_
  refine zw_iload_n 47 f184_46 rfl rfl ?_
  refine zw_table_i (off := 115) 162 f184_47 (by decide +kernel) (by decide +kernel) (by decide +kernel) ?_
  refine zw_iload_n 163 f184_162 rfl rfl ?_
  refine zw_if_ge_t 175 f184_163 (by decide +kernel) (Int32.not_lt.mp h5) ?_
  refine zw_aload_n 176 f184_175 rfl rfl ?_
  refine zw_iload_n 177 f184_176 rfl rfl ?_
  refine zw_virtual_i 180 0 0 [.ref 52, .int b] [(0, .ref 52), (1, .int b)] f184_177 rfl n184_205 k184_205_12 rfl (mb_52 x) (by decide +kernel) (Nat.le_of_ble_eq_true rfl) rfl rfl (by decide +kernel) (by decide +kernel) rfl (Nat.le_of_ble_eq_true rfl) rfl ?_
  refine zw_aload_n 1 f122_0 rfl rfl ?_
  refine zw_iconst 0 2 f122_1 rfl (by decide +kernel) ?_
  refine zw_putfieldS 5 f122_2 rfl g122_111_12 (mb_52 x) rfl rfl (by decide +kernel) ?_
  refine zw_iload_n 6 f122_5 rfl rfl ?_
  refine zw_ireturn f122_6 r122 u122 ⟨_, rfl, ?_⟩
  refine zw_ireturn f184_180 r184 u184 ?_
  exact rfl
set_option maxRecDepth 100000 in
set_option maxHeartbeats 0 in
theorem m_forge_w2 (ro : UInt32 → Nat × (Nat → Int32)) (x : Nat → va_E) (b c : Int32) (h1 : ¬ b < -100) (h2 : ¬ 100 < b) (h3 : ¬ c < -100) (h4 : ¬ 100 < c) : zWp ro 184 0 [(0, .ref 52), (1, .int 2), (2, .int b), (3, .int c)] [] (hMx x) 0 0 (fun r _ => r = some (.int (-1))) := by
  refine zw_iload_n 1 f184_0 rfl rfl ?_
  refine zw_iconst 0 2 f184_1 rfl (by decide +kernel) ?_
  refine zw_bipush 6 4 f184_2 rfl (by decide +kernel) ?_
  refine zw_static_i 7 0 0 [.int 2, .int 0, .int 6] [] [(0, .int 2), (1, .int 0), (2, .int 6)] f184_4 rfl k184_117_99 rfl (by decide +kernel) (Nat.le_of_ble_eq_true rfl) (Nat.le_of_ble_eq_true rfl) rfl rfl (by decide +kernel) (by decide +kernel) rfl (Nat.le_of_ble_eq_true rfl) rfl ?_
  refine zw_iload_n 1 f120_0 rfl rfl ?_
  refine zw_iload_n 2 f120_1 rfl rfl ?_
  refine zw_ic_lt_f 5 14 f120_2 (by decide +kernel) rfl (by decide +kernel) ?_
  refine zw_iload_n 6 f120_5 rfl rfl ?_
  refine zw_iload_n 7 f120_6 rfl rfl ?_
  refine zw_ic_gt_f 10 14 f120_7 (by decide +kernel) rfl (by decide +kernel) ?_
  refine zw_iconst 1 11 f120_10 rfl (by decide +kernel) ?_
  refine zw_goto 15 f120_11 (by decide +kernel) ?_
  refine zw_zreturn f120_15 r120 u120 (by decide +kernel) ⟨_, rfl, ?_⟩
  refine zw_if_eq_f 10 32 f184_7 (by decide +kernel) rfl (by decide +kernel) ?_
  refine zw_iload_n 11 f184_10 rfl rfl ?_
  refine zw_bipush (-100) 13 f184_11 rfl (by decide +kernel) ?_
  refine zw_bipush 100 15 f184_13 rfl (by decide +kernel) ?_
  refine zw_static_i 18 0 0 [.int b, .int (-100), .int 100] [] [(0, .int b), (1, .int (-100)), (2, .int 100)] f184_15 rfl k184_117_99 rfl (by decide +kernel) (Nat.le_of_ble_eq_true rfl) (Nat.le_of_ble_eq_true rfl) rfl rfl (by decide +kernel) (by decide +kernel) rfl (Nat.le_of_ble_eq_true rfl) rfl ?_
  refine zw_iload_n 1 f120_0 rfl rfl ?_
  refine zw_iload_n 2 f120_1 rfl rfl ?_
  refine zw_ic_lt_f 5 14 f120_2 (by decide +kernel) rfl h1 ?_
  refine zw_iload_n 6 f120_5 rfl rfl ?_
  refine zw_iload_n 7 f120_6 rfl rfl ?_
  refine zw_ic_gt_f 10 14 f120_7 (by decide +kernel) rfl h2 ?_
  refine zw_iconst 1 11 f120_10 rfl (by decide +kernel) ?_
  refine zw_goto 15 f120_11 (by decide +kernel) ?_
  refine zw_zreturn f120_15 r120 u120 (by decide +kernel) ⟨_, rfl, ?_⟩
  refine zw_if_eq_f 21 32 f184_18 (by decide +kernel) rfl (by decide +kernel) ?_
  refine zw_iload_n 22 f184_21 rfl rfl ?_
  refine zw_bipush (-100) 24 f184_22 rfl (by decide +kernel) ?_
  refine zw_bipush 100 26 f184_24 rfl (by decide +kernel) ?_
  refine zw_static_i 29 0 0 [.int c, .int (-100), .int 100] [] [(0, .int c), (1, .int (-100)), (2, .int 100)] f184_26 rfl k184_117_99 rfl (by decide +kernel) (Nat.le_of_ble_eq_true rfl) (Nat.le_of_ble_eq_true rfl) rfl rfl (by decide +kernel) (by decide +kernel) rfl (Nat.le_of_ble_eq_true rfl) rfl ?_
  refine zw_iload_n 1 f120_0 rfl rfl ?_
  refine zw_iload_n 2 f120_1 rfl rfl ?_
  refine zw_ic_lt_f 5 14 f120_2 (by decide +kernel) rfl h3 ?_
  refine zw_iload_n 6 f120_5 rfl rfl ?_
  refine zw_iload_n 7 f120_6 rfl rfl ?_
  refine zw_ic_gt_f 10 14 f120_7 (by decide +kernel) rfl h4 ?_
  refine zw_iconst 1 11 f120_10 rfl (by decide +kernel) ?_
  refine zw_goto 15 f120_11 (by decide +kernel) ?_
  refine zw_zreturn f120_15 r120 u120 (by decide +kernel) ⟨_, rfl, ?_⟩
  refine zw_if_ne_t 38 f184_29 (by decide +kernel) (by decide +kernel) ?_
  refine zw_iload_n 39 f184_38 rfl rfl ?_
  refine zw_bipush 8 41 f184_39 rfl (by decide +kernel) ?_
  refine zw_static_i 44 0 0 [.int c, .int 8] [] [(0, .int c), (1, .int 8)] f184_41 rfl k184_313_99 rfl (by decide +kernel) (Nat.le_of_ble_eq_true rfl) (Nat.le_of_ble_eq_true rfl) rfl rfl (by decide +kernel) (by decide +kernel) rfl (Nat.le_of_ble_eq_true rfl) rfl ?_
  refine zw_iload_n 1 f182_0 rfl rfl ?_
  refine zw_iload_n 2 f182_1 rfl rfl ?_
  refine zw_irem (c - c / 8 * 8) 3 f182_2 rfl (by decide +kernel) rfl ?_
  refine zw_iload_n 4 f182_3 rfl rfl ?_
  refine zw_iadd ((c - c / 8 * 8) + 8) 5 f182_4 rfl rfl ?_
  refine zw_iload_n 6 f182_5 rfl rfl ?_
  refine zw_irem (((c - c / 8 * 8) + 8) - ((c - c / 8 * 8) + 8) / 8 * 8) 7 f182_6 rfl (by decide +kernel) rfl ?_
  refine zw_ireturn f182_7 r182 u182 ⟨_, rfl, ?_⟩
  refine zw_istore [(4, .int (((c - c / 8 * 8) + 8) - ((c - c / 8 * 8) + 8) / 8 * 8)), (0, .ref 52), (1, .int 2), (2, .int b), (3, .int c)] 46 f184_44 rfl (by decide +kernel) rfl ?_
  refine zw_iload_n 47 f184_46 rfl rfl ?_
  refine zw_table_i (off := 134) 181 f184_47 (by decide +kernel) (by decide +kernel) (by decide +kernel) ?_
  refine zw_iload_n 182 f184_181 rfl rfl ?_
  refine zw_iconst 0 183 f184_182 rfl (by decide +kernel) ?_
  refine zw_aload_n 184 f184_183 rfl rfl ?_
  refine zw_getfield 187 f184_184 rfl g184_114_12 (mb_52 x) rfl ?_
  refine zw_iconst 1 188 f184_187 rfl (by decide +kernel) ?_
  refine zw_isub (-1) 189 f184_188 rfl (by decide +kernel) ?_
  refine zw_static_i 192 0 0 [.int b, .int 0, .int (-1)] [] [(0, .int b), (1, .int 0), (2, .int (-1))] f184_189 rfl k184_117_99 rfl (by decide +kernel) (Nat.le_of_ble_eq_true rfl) (Nat.le_of_ble_eq_true rfl) rfl rfl (by decide +kernel) (by decide +kernel) rfl (Nat.le_of_ble_eq_true rfl) rfl ?_
  refine zw_iload_n 1 f120_0 rfl rfl ?_
  refine zw_iload_n 2 f120_1 rfl rfl ?_
  refine zw_ic_lt 5 14 f120_2 (by decide +kernel) rfl (fun hc1 => ?_) (fun hc1 => ?_)
  · refine zw_iconst 0 15 f120_14 rfl (by decide +kernel) ?_
    refine zw_zreturn f120_15 r120 u120 (by decide +kernel) ⟨_, rfl, ?_⟩
    refine zw_if_eq_t 208 f184_192 (by decide +kernel) (by decide +kernel) ?_
    refine zw_aload_n 209 f184_208 rfl rfl ?_
    refine zw_bipush 12 211 f184_209 rfl (by decide +kernel) ?_
    refine zw_virtual_i 214 0 0 [.ref 52, .int 12] [(0, .ref 52), (1, .int 12)] f184_211 rfl n184_209 k184_209_12 rfl (mb_52 x) (by decide +kernel) (Nat.le_of_ble_eq_true rfl) rfl rfl (by decide +kernel) (by decide +kernel) rfl (Nat.le_of_ble_eq_true rfl) rfl ?_
    refine zw_aload_n 1 f121_0 rfl rfl ?_
    refine zw_iload_n 2 f121_1 rfl rfl ?_
    refine zw_putfield 5 f121_2 rfl g121_111_12 (mb_52 x) rfl (zg_lt rfl) (by decide +kernel) ?_
    refine zw_iconst (-1) 6 f121_5 rfl (by decide +kernel) ?_
    refine zw_ireturn f121_6 r121 u121 ⟨_, rfl, ?_⟩
    refine zw_ireturn f184_214 r184 u184 ?_
    exact rfl
  · refine zw_iload_n 6 f120_5 rfl rfl ?_
    refine zw_iload_n 7 f120_6 rfl rfl ?_
    refine zw_ic_gt_t 14 f120_7 (by decide +kernel) (zl_m1 hc1) ?_
    refine zw_iconst 0 15 f120_14 rfl (by decide +kernel) ?_
    refine zw_zreturn f120_15 r120 u120 (by decide +kernel) ⟨_, rfl, ?_⟩
    refine zw_if_eq_t 208 f184_192 (by decide +kernel) (by decide +kernel) ?_
    refine zw_aload_n 209 f184_208 rfl rfl ?_
    refine zw_bipush 12 211 f184_209 rfl (by decide +kernel) ?_
    refine zw_virtual_i 214 0 0 [.ref 52, .int 12] [(0, .ref 52), (1, .int 12)] f184_211 rfl n184_209 k184_209_12 rfl (mb_52 x) (by decide +kernel) (Nat.le_of_ble_eq_true rfl) rfl rfl (by decide +kernel) (by decide +kernel) rfl (Nat.le_of_ble_eq_true rfl) rfl ?_
    refine zw_aload_n 1 f121_0 rfl rfl ?_
    refine zw_iload_n 2 f121_1 rfl rfl ?_
    refine zw_putfield 5 f121_2 rfl g121_111_12 (mb_52 x) rfl (zg_lt rfl) (by decide +kernel) ?_
    refine zw_iconst (-1) 6 f121_5 rfl (by decide +kernel) ?_
    refine zw_ireturn f121_6 r121 u121 ⟨_, rfl, ?_⟩
    refine zw_ireturn f184_214 r184 u184 ?_
    exact rfl
set_option maxRecDepth 100000 in
set_option maxHeartbeats 0 in
theorem m_forge_w3a (ro : UInt32 → Nat × (Nat → Int32)) (x : Nat → va_E) : zWp ro 184 0 [(0, .ref 52), (1, .int 3), (2, .int 0), (3, .int 0)] [] (hMx x) 0 0 (fun r _ => r = some (.int 0)) := by
  refine zw_iload_n 1 f184_0 rfl rfl ?_
  refine zw_iconst 0 2 f184_1 rfl (by decide +kernel) ?_
  refine zw_bipush 6 4 f184_2 rfl (by decide +kernel) ?_
  refine zw_static_i 7 0 0 [.int 3, .int 0, .int 6] [] [(0, .int 3), (1, .int 0), (2, .int 6)] f184_4 rfl k184_117_99 rfl (by decide +kernel) (Nat.le_of_ble_eq_true rfl) (Nat.le_of_ble_eq_true rfl) rfl rfl (by decide +kernel) (by decide +kernel) rfl (Nat.le_of_ble_eq_true rfl) rfl ?_
  refine zw_iload_n 1 f120_0 rfl rfl ?_
  refine zw_iload_n 2 f120_1 rfl rfl ?_
  refine zw_ic_lt_f 5 14 f120_2 (by decide +kernel) rfl (by decide +kernel) ?_
  refine zw_iload_n 6 f120_5 rfl rfl ?_
  refine zw_iload_n 7 f120_6 rfl rfl ?_
  refine zw_ic_gt_f 10 14 f120_7 (by decide +kernel) rfl (by decide +kernel) ?_
  refine zw_iconst 1 11 f120_10 rfl (by decide +kernel) ?_
  refine zw_goto 15 f120_11 (by decide +kernel) ?_
  refine zw_zreturn f120_15 r120 u120 (by decide +kernel) ⟨_, rfl, ?_⟩
  refine zw_if_eq_f 10 32 f184_7 (by decide +kernel) rfl (by decide +kernel) ?_
  refine zw_iload_n 11 f184_10 rfl rfl ?_
  refine zw_bipush (-100) 13 f184_11 rfl (by decide +kernel) ?_
  refine zw_bipush 100 15 f184_13 rfl (by decide +kernel) ?_
  refine zw_static_i 18 0 0 [.int 0, .int (-100), .int 100] [] [(0, .int 0), (1, .int (-100)), (2, .int 100)] f184_15 rfl k184_117_99 rfl (by decide +kernel) (Nat.le_of_ble_eq_true rfl) (Nat.le_of_ble_eq_true rfl) rfl rfl (by decide +kernel) (by decide +kernel) rfl (Nat.le_of_ble_eq_true rfl) rfl ?_
  refine zw_iload_n 1 f120_0 rfl rfl ?_
  refine zw_iload_n 2 f120_1 rfl rfl ?_
  refine zw_ic_lt_f 5 14 f120_2 (by decide +kernel) rfl (by decide +kernel) ?_
  refine zw_iload_n 6 f120_5 rfl rfl ?_
  refine zw_iload_n 7 f120_6 rfl rfl ?_
  refine zw_ic_gt_f 10 14 f120_7 (by decide +kernel) rfl (by decide +kernel) ?_
  refine zw_iconst 1 11 f120_10 rfl (by decide +kernel) ?_
  refine zw_goto 15 f120_11 (by decide +kernel) ?_
  refine zw_zreturn f120_15 r120 u120 (by decide +kernel) ⟨_, rfl, ?_⟩
  refine zw_if_eq_f 21 32 f184_18 (by decide +kernel) rfl (by decide +kernel) ?_
  refine zw_iload_n 22 f184_21 rfl rfl ?_
  refine zw_bipush (-100) 24 f184_22 rfl (by decide +kernel) ?_
  refine zw_bipush 100 26 f184_24 rfl (by decide +kernel) ?_
  refine zw_static_i 29 0 0 [.int 0, .int (-100), .int 100] [] [(0, .int 0), (1, .int (-100)), (2, .int 100)] f184_26 rfl k184_117_99 rfl (by decide +kernel) (Nat.le_of_ble_eq_true rfl) (Nat.le_of_ble_eq_true rfl) rfl rfl (by decide +kernel) (by decide +kernel) rfl (Nat.le_of_ble_eq_true rfl) rfl ?_
  refine zw_iload_n 1 f120_0 rfl rfl ?_
  refine zw_iload_n 2 f120_1 rfl rfl ?_
  refine zw_ic_lt_f 5 14 f120_2 (by decide +kernel) rfl (by decide +kernel) ?_
  refine zw_iload_n 6 f120_5 rfl rfl ?_
  refine zw_iload_n 7 f120_6 rfl rfl ?_
  refine zw_ic_gt_f 10 14 f120_7 (by decide +kernel) rfl (by decide +kernel) ?_
  refine zw_iconst 1 11 f120_10 rfl (by decide +kernel) ?_
  refine zw_goto 15 f120_11 (by decide +kernel) ?_
  refine zw_zreturn f120_15 r120 u120 (by decide +kernel) ⟨_, rfl, ?_⟩
  refine zw_if_ne_t 38 f184_29 (by decide +kernel) (by decide +kernel) ?_
  refine zw_iload_n 39 f184_38 rfl rfl ?_
  refine zw_bipush 8 41 f184_39 rfl (by decide +kernel) ?_
  refine zw_static_i 44 0 0 [.int 0, .int 8] [] [(0, .int 0), (1, .int 8)] f184_41 rfl k184_313_99 rfl (by decide +kernel) (Nat.le_of_ble_eq_true rfl) (Nat.le_of_ble_eq_true rfl) rfl rfl (by decide +kernel) (by decide +kernel) rfl (Nat.le_of_ble_eq_true rfl) rfl ?_
  refine zw_iload_n 1 f182_0 rfl rfl ?_
  refine zw_iload_n 2 f182_1 rfl rfl ?_
  refine zw_irem 0 3 f182_2 rfl (by decide +kernel) (by decide +kernel) ?_
  refine zw_iload_n 4 f182_3 rfl rfl ?_
  refine zw_iadd 8 5 f182_4 rfl (by decide +kernel) ?_
  refine zw_iload_n 6 f182_5 rfl rfl ?_
  refine zw_irem 0 7 f182_6 rfl (by decide +kernel) (by decide +kernel) ?_
  refine zw_ireturn f182_7 r182 u182 ⟨_, rfl, ?_⟩
  refine zw_istore [(4, .int 0), (0, .ref 52), (1, .int 3), (2, .int 0), (3, .int 0)] 46 f184_44 rfl (by decide +kernel) rfl ?_
  refine zw_iload_n 47 f184_46 rfl rfl ?_
  refine zw_table_i (off := 168) 215 f184_47 (by decide +kernel) (by decide +kernel) (by decide +kernel) ?_
  refine zw_iload_n 216 f184_215 rfl rfl ?_
  refine zw_if_lt_f 219 239 f184_216 (by decide +kernel) rfl (by decide +kernel) ?_
  refine zw_iload_n 220 f184_219 rfl rfl ?_
  refine zw_if_lt_f 223 239 f184_220 (by decide +kernel) rfl (by decide +kernel) ?_
  refine zw_iload_n 224 f184_223 rfl rfl ?_
  refine zw_iload_n 225 f184_224 rfl rfl ?_
  refine zw_iadd 0 226 f184_225 rfl (by decide +kernel) ?_
  refine zw_aload_n 227 f184_226 rfl rfl ?_
  refine zw_getfield 230 f184_227 rfl g184_114_12 (mb_52 x) rfl ?_
  refine zw_ic_gt_f 233 239 f184_230 (by decide +kernel) rfl (by decide +kernel) ?_
  refine zw_iload_n 234 f184_233 rfl rfl ?_
  refine zw_bipush 6 236 f184_234 rfl (by decide +kernel) ?_
  refine zw_ic_le_t 248 f184_236 (by decide +kernel) (by decide +kernel) ?_
  refine zw_aload_n 249 f184_248 rfl rfl ?_
  refine zw_aload_n 250 f184_249 rfl rfl ?_
  refine zw_iload_n 251 f184_250 rfl rfl ?_
  refine zw_iload_n 252 f184_251 rfl rfl ?_
  refine zw_virtual_i 255 0 0 [.ref 52, .int 0, .int 0] [(0, .ref 52), (1, .int 0), (2, .int 0)] f184_252 rfl n184_316 k184_316_12 rfl (mb_52 x) (by decide +kernel) (Nat.le_of_ble_eq_true rfl) rfl rfl (by decide +kernel) (by decide +kernel) rfl (Nat.le_of_ble_eq_true rfl) rfl ?_
  refine zw_iconst 0 1 f183_0 rfl (by decide +kernel) ?_
  refine zw_istore_n [(3, .int 0), (0, .ref 52), (1, .int 0), (2, .int 0)] 2 f183_1 rfl (by decide +kernel) rfl ?_
  refine zw_iload_n 3 f183_2 rfl rfl ?_
  refine zw_istore [(4, .int 0), (3, .int 0), (0, .ref 52), (1, .int 0), (2, .int 0)] 5 f183_3 rfl (by decide +kernel) rfl ?_
  refine zw_iload 7 f183_5 rfl rfl ?_
  refine zw_iload_n 8 f183_7 rfl rfl ?_
  refine zw_iload_n 9 f183_8 rfl rfl ?_
  refine zw_iadd 0 10 f183_9 rfl (by decide +kernel) ?_
  refine zw_ic_ge_t 29 f183_10 (by decide +kernel) (by decide +kernel) ?_
  refine zw_iload_n 30 f183_29 rfl rfl ?_
  refine zw_ireturn f183_30 r183 u183 ⟨_, rfl, ?_⟩
  refine zw_virtual_i 258 0 0 [.ref 52, .int 0] [(0, .ref 52), (1, .int 0)] f184_255 rfl n184_205 k184_205_12 rfl (mb_52 x) (by decide +kernel) (Nat.le_of_ble_eq_true rfl) rfl rfl (by decide +kernel) (by decide +kernel) rfl (Nat.le_of_ble_eq_true rfl) rfl ?_
  refine zw_aload_n 1 f122_0 rfl rfl ?_
  refine zw_iconst 0 2 f122_1 rfl (by decide +kernel) ?_
  refine zw_putfieldS 5 f122_2 rfl g122_111_12 (mb_52 x) rfl rfl (by decide +kernel) ?_
  refine zw_iload_n 6 f122_5 rfl rfl ?_
  refine zw_ireturn f122_6 r122 u122 ⟨_, rfl, ?_⟩
  refine zw_ireturn f184_258 r184 u184 ?_
  exact rfl
set_option maxRecDepth 100000 in
set_option maxHeartbeats 0 in
theorem m_forge_w3b (ro : UInt32 → Nat × (Nat → Int32)) (x : Nat → va_E) (b c : Int32) (h1 : ¬ b < -100) (h2 : ¬ 100 < b) (h3 : ¬ c < -100) (h4 : ¬ 100 < c) (h5 : b < 0) : zWp ro 184 0 [(0, .ref 52), (1, .int 3), (2, .int b), (3, .int c)] [] (hMx x) 0 0 (fun r _ => r = some (.int (-1))) := by
  refine zw_iload_n 1 f184_0 rfl rfl ?_
  refine zw_iconst 0 2 f184_1 rfl (by decide +kernel) ?_
  refine zw_bipush 6 4 f184_2 rfl (by decide +kernel) ?_
  refine zw_static_i 7 0 0 [.int 3, .int 0, .int 6] [] [(0, .int 3), (1, .int 0), (2, .int 6)] f184_4 rfl k184_117_99 rfl (by decide +kernel) (Nat.le_of_ble_eq_true rfl) (Nat.le_of_ble_eq_true rfl) rfl rfl (by decide +kernel) (by decide +kernel) rfl (Nat.le_of_ble_eq_true rfl) rfl ?_
  refine zw_iload_n 1 f120_0 rfl rfl ?_
  refine zw_iload_n 2 f120_1 rfl rfl ?_
  refine zw_ic_lt_f 5 14 f120_2 (by decide +kernel) rfl (by decide +kernel) ?_
  refine zw_iload_n 6 f120_5 rfl rfl ?_
  refine zw_iload_n 7 f120_6 rfl rfl ?_
  refine zw_ic_gt_f 10 14 f120_7 (by decide +kernel) rfl (by decide +kernel) ?_
  refine zw_iconst 1 11 f120_10 rfl (by decide +kernel) ?_
  refine zw_goto 15 f120_11 (by decide +kernel) ?_
  refine zw_zreturn f120_15 r120 u120 (by decide +kernel) ⟨_, rfl, ?_⟩
  refine zw_if_eq_f 10 32 f184_7 (by decide +kernel) rfl (by decide +kernel) ?_
  refine zw_iload_n 11 f184_10 rfl rfl ?_
  refine zw_bipush (-100) 13 f184_11 rfl (by decide +kernel) ?_
  refine zw_bipush 100 15 f184_13 rfl (by decide +kernel) ?_
  refine zw_static_i 18 0 0 [.int b, .int (-100), .int 100] [] [(0, .int b), (1, .int (-100)), (2, .int 100)] f184_15 rfl k184_117_99 rfl (by decide +kernel) (Nat.le_of_ble_eq_true rfl) (Nat.le_of_ble_eq_true rfl) rfl rfl (by decide +kernel) (by decide +kernel) rfl (Nat.le_of_ble_eq_true rfl) rfl ?_
  refine zw_iload_n 1 f120_0 rfl rfl ?_
  refine zw_iload_n 2 f120_1 rfl rfl ?_
  refine zw_ic_lt_f 5 14 f120_2 (by decide +kernel) rfl h1 ?_
  refine zw_iload_n 6 f120_5 rfl rfl ?_
  refine zw_iload_n 7 f120_6 rfl rfl ?_
  refine zw_ic_gt_f 10 14 f120_7 (by decide +kernel) rfl h2 ?_
  refine zw_iconst 1 11 f120_10 rfl (by decide +kernel) ?_
  refine zw_goto 15 f120_11 (by decide +kernel) ?_
  refine zw_zreturn f120_15 r120 u120 (by decide +kernel) ⟨_, rfl, ?_⟩
  refine zw_if_eq_f 21 32 f184_18 (by decide +kernel) rfl (by decide +kernel) ?_
  refine zw_iload_n 22 f184_21 rfl rfl ?_
  refine zw_bipush (-100) 24 f184_22 rfl (by decide +kernel) ?_
  refine zw_bipush 100 26 f184_24 rfl (by decide +kernel) ?_
  refine zw_static_i 29 0 0 [.int c, .int (-100), .int 100] [] [(0, .int c), (1, .int (-100)), (2, .int 100)] f184_26 rfl k184_117_99 rfl (by decide +kernel) (Nat.le_of_ble_eq_true rfl) (Nat.le_of_ble_eq_true rfl) rfl rfl (by decide +kernel) (by decide +kernel) rfl (Nat.le_of_ble_eq_true rfl) rfl ?_
  refine zw_iload_n 1 f120_0 rfl rfl ?_
  refine zw_iload_n 2 f120_1 rfl rfl ?_
  refine zw_ic_lt_f 5 14 f120_2 (by decide +kernel) rfl h3 ?_
  refine zw_iload_n 6 f120_5 rfl rfl ?_
  refine zw_iload_n 7 f120_6 rfl rfl ?_
  refine zw_ic_gt_f 10 14 f120_7 (by decide +kernel) rfl h4 ?_
  refine zw_iconst 1 11 f120_10 rfl (by decide +kernel) ?_
  refine zw_goto 15 f120_11 (by decide +kernel) ?_
  refine zw_zreturn f120_15 r120 u120 (by decide +kernel) ⟨_, rfl, ?_⟩
  refine zw_if_ne_t 38 f184_29 (by decide +kernel) (by decide +kernel) ?_
  refine zw_iload_n 39 f184_38 rfl rfl ?_
  refine zw_bipush 8 41 f184_39 rfl (by decide +kernel) ?_
  refine zw_static_i 44 0 0 [.int c, .int 8] [] [(0, .int c), (1, .int 8)] f184_41 rfl k184_313_99 rfl (by decide +kernel) (Nat.le_of_ble_eq_true rfl) (Nat.le_of_ble_eq_true rfl) rfl rfl (by decide +kernel) (by decide +kernel) rfl (Nat.le_of_ble_eq_true rfl) rfl ?_
  refine zw_iload_n 1 f182_0 rfl rfl ?_
  refine zw_iload_n 2 f182_1 rfl rfl ?_
  refine zw_irem (c - c / 8 * 8) 3 f182_2 rfl (by decide +kernel) rfl ?_
  refine zw_iload_n 4 f182_3 rfl rfl ?_
  refine zw_iadd ((c - c / 8 * 8) + 8) 5 f182_4 rfl rfl ?_
  refine zw_iload_n 6 f182_5 rfl rfl ?_
  refine zw_irem (((c - c / 8 * 8) + 8) - ((c - c / 8 * 8) + 8) / 8 * 8) 7 f182_6 rfl (by decide +kernel) rfl ?_
  refine zw_ireturn f182_7 r182 u182 ⟨_, rfl, ?_⟩
  refine zw_istore [(4, .int (((c - c / 8 * 8) + 8) - ((c - c / 8 * 8) + 8) / 8 * 8)), (0, .ref 52), (1, .int 3), (2, .int b), (3, .int c)] 46 f184_44 rfl (by decide +kernel) rfl ?_
  refine zw_iload_n 47 f184_46 rfl rfl ?_
  refine zw_table_i (off := 168) 215 f184_47 (by decide +kernel) (by decide +kernel) (by decide +kernel) ?_
  refine zw_iload_n 216 f184_215 rfl rfl ?_
  refine zw_if_lt_t 239 f184_216 (by decide +kernel) h5 ?_
  refine zw_aload_n 240 f184_239 rfl rfl ?_
  refine zw_bipush 12 242 f184_240 rfl (by decide +kernel) ?_
  refine zw_virtual_i 245 0 0 [.ref 52, .int 12] [(0, .ref 52), (1, .int 12)] f184_242 rfl n184_209 k184_209_12 rfl (mb_52 x) (by decide +kernel) (Nat.le_of_ble_eq_true rfl) rfl rfl (by decide +kernel) (by decide +kernel) rfl (Nat.le_of_ble_eq_true rfl) rfl ?_
  refine zw_aload_n 1 f121_0 rfl rfl ?_
  refine zw_iload_n 2 f121_1 rfl rfl ?_
  refine zw_putfield 5 f121_2 rfl g121_111_12 (mb_52 x) rfl (zg_lt rfl) (by decide +kernel) ?_
  refine zw_iconst (-1) 6 f121_5 rfl (by decide +kernel) ?_
  refine zw_ireturn f121_6 r121 u121 ⟨_, rfl, ?_⟩
  refine zw_goto 258 f184_245 (by decide +kernel) ?_
  refine zw_ireturn f184_258 r184 u184 ?_
  exact rfl
set_option maxRecDepth 100000 in
set_option maxHeartbeats 0 in
theorem m_forge_w3c (ro : UInt32 → Nat × (Nat → Int32)) (x : Nat → va_E) (b c : Int32) (h1 : ¬ b < -100) (h2 : ¬ 100 < b) (h3 : ¬ c < -100) (h4 : ¬ 100 < c) (h5 : ¬ b < 0) (h6 : c < 0) : zWp ro 184 0 [(0, .ref 52), (1, .int 3), (2, .int b), (3, .int c)] [] (hMx x) 0 0 (fun r _ => r = some (.int (-1))) := by
  refine zw_iload_n 1 f184_0 rfl rfl ?_
  refine zw_iconst 0 2 f184_1 rfl (by decide +kernel) ?_
  refine zw_bipush 6 4 f184_2 rfl (by decide +kernel) ?_
  refine zw_static_i 7 0 0 [.int 3, .int 0, .int 6] [] [(0, .int 3), (1, .int 0), (2, .int 6)] f184_4 rfl k184_117_99 rfl (by decide +kernel) (Nat.le_of_ble_eq_true rfl) (Nat.le_of_ble_eq_true rfl) rfl rfl (by decide +kernel) (by decide +kernel) rfl (Nat.le_of_ble_eq_true rfl) rfl ?_
  refine zw_iload_n 1 f120_0 rfl rfl ?_
  refine zw_iload_n 2 f120_1 rfl rfl ?_
  refine zw_ic_lt_f 5 14 f120_2 (by decide +kernel) rfl (by decide +kernel) ?_
  refine zw_iload_n 6 f120_5 rfl rfl ?_
  refine zw_iload_n 7 f120_6 rfl rfl ?_
  refine zw_ic_gt_f 10 14 f120_7 (by decide +kernel) rfl (by decide +kernel) ?_
  refine zw_iconst 1 11 f120_10 rfl (by decide +kernel) ?_
  refine zw_goto 15 f120_11 (by decide +kernel) ?_
  refine zw_zreturn f120_15 r120 u120 (by decide +kernel) ⟨_, rfl, ?_⟩
  refine zw_if_eq_f 10 32 f184_7 (by decide +kernel) rfl (by decide +kernel) ?_
  refine zw_iload_n 11 f184_10 rfl rfl ?_
  refine zw_bipush (-100) 13 f184_11 rfl (by decide +kernel) ?_
  refine zw_bipush 100 15 f184_13 rfl (by decide +kernel) ?_
  refine zw_static_i 18 0 0 [.int b, .int (-100), .int 100] [] [(0, .int b), (1, .int (-100)), (2, .int 100)] f184_15 rfl k184_117_99 rfl (by decide +kernel) (Nat.le_of_ble_eq_true rfl) (Nat.le_of_ble_eq_true rfl) rfl rfl (by decide +kernel) (by decide +kernel) rfl (Nat.le_of_ble_eq_true rfl) rfl ?_
  refine zw_iload_n 1 f120_0 rfl rfl ?_
  refine zw_iload_n 2 f120_1 rfl rfl ?_
  refine zw_ic_lt_f 5 14 f120_2 (by decide +kernel) rfl h1 ?_
  refine zw_iload_n 6 f120_5 rfl rfl ?_
  refine zw_iload_n 7 f120_6 rfl rfl ?_
  refine zw_ic_gt_f 10 14 f120_7 (by decide +kernel) rfl h2 ?_
  refine zw_iconst 1 11 f120_10 rfl (by decide +kernel) ?_
  refine zw_goto 15 f120_11 (by decide +kernel) ?_
  refine zw_zreturn f120_15 r120 u120 (by decide +kernel) ⟨_, rfl, ?_⟩
  refine zw_if_eq_f 21 32 f184_18 (by decide +kernel) rfl (by decide +kernel) ?_
  refine zw_iload_n 22 f184_21 rfl rfl ?_
  refine zw_bipush (-100) 24 f184_22 rfl (by decide +kernel) ?_
  refine zw_bipush 100 26 f184_24 rfl (by decide +kernel) ?_
  refine zw_static_i 29 0 0 [.int c, .int (-100), .int 100] [] [(0, .int c), (1, .int (-100)), (2, .int 100)] f184_26 rfl k184_117_99 rfl (by decide +kernel) (Nat.le_of_ble_eq_true rfl) (Nat.le_of_ble_eq_true rfl) rfl rfl (by decide +kernel) (by decide +kernel) rfl (Nat.le_of_ble_eq_true rfl) rfl ?_
  refine zw_iload_n 1 f120_0 rfl rfl ?_
  refine zw_iload_n 2 f120_1 rfl rfl ?_
  refine zw_ic_lt_f 5 14 f120_2 (by decide +kernel) rfl h3 ?_
  refine zw_iload_n 6 f120_5 rfl rfl ?_
  refine zw_iload_n 7 f120_6 rfl rfl ?_
  refine zw_ic_gt_f 10 14 f120_7 (by decide +kernel) rfl h4 ?_
  refine zw_iconst 1 11 f120_10 rfl (by decide +kernel) ?_
  refine zw_goto 15 f120_11 (by decide +kernel) ?_
  refine zw_zreturn f120_15 r120 u120 (by decide +kernel) ⟨_, rfl, ?_⟩
  refine zw_if_ne_t 38 f184_29 (by decide +kernel) (by decide +kernel) ?_
  refine zw_iload_n 39 f184_38 rfl rfl ?_
  refine zw_bipush 8 41 f184_39 rfl (by decide +kernel) ?_
  refine zw_static_i 44 0 0 [.int c, .int 8] [] [(0, .int c), (1, .int 8)] f184_41 rfl k184_313_99 rfl (by decide +kernel) (Nat.le_of_ble_eq_true rfl) (Nat.le_of_ble_eq_true rfl) rfl rfl (by decide +kernel) (by decide +kernel) rfl (Nat.le_of_ble_eq_true rfl) rfl ?_
  refine zw_iload_n 1 f182_0 rfl rfl ?_
  refine zw_iload_n 2 f182_1 rfl rfl ?_
  refine zw_irem (c - c / 8 * 8) 3 f182_2 rfl (by decide +kernel) rfl ?_
  refine zw_iload_n 4 f182_3 rfl rfl ?_
  refine zw_iadd ((c - c / 8 * 8) + 8) 5 f182_4 rfl rfl ?_
  refine zw_iload_n 6 f182_5 rfl rfl ?_
  refine zw_irem (((c - c / 8 * 8) + 8) - ((c - c / 8 * 8) + 8) / 8 * 8) 7 f182_6 rfl (by decide +kernel) rfl ?_
  refine zw_ireturn f182_7 r182 u182 ⟨_, rfl, ?_⟩
  refine zw_istore [(4, .int (((c - c / 8 * 8) + 8) - ((c - c / 8 * 8) + 8) / 8 * 8)), (0, .ref 52), (1, .int 3), (2, .int b), (3, .int c)] 46 f184_44 rfl (by decide +kernel) rfl ?_
  refine zw_iload_n 47 f184_46 rfl rfl ?_
  refine zw_table_i (off := 168) 215 f184_47 (by decide +kernel) (by decide +kernel) (by decide +kernel) ?_
  refine zw_iload_n 216 f184_215 rfl rfl ?_
  refine zw_if_lt_f 219 239 f184_216 (by decide +kernel) rfl h5 ?_
  refine zw_iload_n 220 f184_219 rfl rfl ?_
  refine zw_if_lt_t 239 f184_220 (by decide +kernel) h6 ?_
  refine zw_aload_n 240 f184_239 rfl rfl ?_
  refine zw_bipush 12 242 f184_240 rfl (by decide +kernel) ?_
  refine zw_virtual_i 245 0 0 [.ref 52, .int 12] [(0, .ref 52), (1, .int 12)] f184_242 rfl n184_209 k184_209_12 rfl (mb_52 x) (by decide +kernel) (Nat.le_of_ble_eq_true rfl) rfl rfl (by decide +kernel) (by decide +kernel) rfl (Nat.le_of_ble_eq_true rfl) rfl ?_
  refine zw_aload_n 1 f121_0 rfl rfl ?_
  refine zw_iload_n 2 f121_1 rfl rfl ?_
  refine zw_putfield 5 f121_2 rfl g121_111_12 (mb_52 x) rfl (zg_lt rfl) (by decide +kernel) ?_
  refine zw_iconst (-1) 6 f121_5 rfl (by decide +kernel) ?_
  refine zw_ireturn f121_6 r121 u121 ⟨_, rfl, ?_⟩
  refine zw_goto 258 f184_245 (by decide +kernel) ?_
  refine zw_ireturn f184_258 r184 u184 ?_
  exact rfl
set_option maxRecDepth 100000 in
set_option maxHeartbeats 0 in
theorem m_forge_w3d (ro : UInt32 → Nat × (Nat → Int32)) (x : Nat → va_E) (b c : Int32) (h1 : ¬ b < -100) (h2 : ¬ 100 < b) (h3 : ¬ c < -100) (h4 : ¬ 100 < c) (h5 : ¬ b < 0) (h6 : ¬ c < 0) (h7 : 6 < b) : zWp ro 184 0 [(0, .ref 52), (1, .int 3), (2, .int b), (3, .int c)] [] (hMx x) 0 0 (fun r _ => r = some (.int (-1))) := by
  refine zw_iload_n 1 f184_0 rfl rfl ?_
  refine zw_iconst 0 2 f184_1 rfl (by decide +kernel) ?_
  refine zw_bipush 6 4 f184_2 rfl (by decide +kernel) ?_
  refine zw_static_i 7 0 0 [.int 3, .int 0, .int 6] [] [(0, .int 3), (1, .int 0), (2, .int 6)] f184_4 rfl k184_117_99 rfl (by decide +kernel) (Nat.le_of_ble_eq_true rfl) (Nat.le_of_ble_eq_true rfl) rfl rfl (by decide +kernel) (by decide +kernel) rfl (Nat.le_of_ble_eq_true rfl) rfl ?_
  refine zw_iload_n 1 f120_0 rfl rfl ?_
  refine zw_iload_n 2 f120_1 rfl rfl ?_
  refine zw_ic_lt_f 5 14 f120_2 (by decide +kernel) rfl (by decide +kernel) ?_
  refine zw_iload_n 6 f120_5 rfl rfl ?_
  refine zw_iload_n 7 f120_6 rfl rfl ?_
  refine zw_ic_gt_f 10 14 f120_7 (by decide +kernel) rfl (by decide +kernel) ?_
  refine zw_iconst 1 11 f120_10 rfl (by decide +kernel) ?_
  refine zw_goto 15 f120_11 (by decide +kernel) ?_
  refine zw_zreturn f120_15 r120 u120 (by decide +kernel) ⟨_, rfl, ?_⟩
  refine zw_if_eq_f 10 32 f184_7 (by decide +kernel) rfl (by decide +kernel) ?_
  refine zw_iload_n 11 f184_10 rfl rfl ?_
  refine zw_bipush (-100) 13 f184_11 rfl (by decide +kernel) ?_
  refine zw_bipush 100 15 f184_13 rfl (by decide +kernel) ?_
  refine zw_static_i 18 0 0 [.int b, .int (-100), .int 100] [] [(0, .int b), (1, .int (-100)), (2, .int 100)] f184_15 rfl k184_117_99 rfl (by decide +kernel) (Nat.le_of_ble_eq_true rfl) (Nat.le_of_ble_eq_true rfl) rfl rfl (by decide +kernel) (by decide +kernel) rfl (Nat.le_of_ble_eq_true rfl) rfl ?_
  refine zw_iload_n 1 f120_0 rfl rfl ?_
  refine zw_iload_n 2 f120_1 rfl rfl ?_
  refine zw_ic_lt_f 5 14 f120_2 (by decide +kernel) rfl h1 ?_
  refine zw_iload_n 6 f120_5 rfl rfl ?_
  refine zw_iload_n 7 f120_6 rfl rfl ?_
  refine zw_ic_gt_f 10 14 f120_7 (by decide +kernel) rfl h2 ?_
  refine zw_iconst 1 11 f120_10 rfl (by decide +kernel) ?_
  refine zw_goto 15 f120_11 (by decide +kernel) ?_
  refine zw_zreturn f120_15 r120 u120 (by decide +kernel) ⟨_, rfl, ?_⟩
  refine zw_if_eq_f 21 32 f184_18 (by decide +kernel) rfl (by decide +kernel) ?_
  refine zw_iload_n 22 f184_21 rfl rfl ?_
  refine zw_bipush (-100) 24 f184_22 rfl (by decide +kernel) ?_
  refine zw_bipush 100 26 f184_24 rfl (by decide +kernel) ?_
  refine zw_static_i 29 0 0 [.int c, .int (-100), .int 100] [] [(0, .int c), (1, .int (-100)), (2, .int 100)] f184_26 rfl k184_117_99 rfl (by decide +kernel) (Nat.le_of_ble_eq_true rfl) (Nat.le_of_ble_eq_true rfl) rfl rfl (by decide +kernel) (by decide +kernel) rfl (Nat.le_of_ble_eq_true rfl) rfl ?_
  refine zw_iload_n 1 f120_0 rfl rfl ?_
  refine zw_iload_n 2 f120_1 rfl rfl ?_
  refine zw_ic_lt_f 5 14 f120_2 (by decide +kernel) rfl h3 ?_
  refine zw_iload_n 6 f120_5 rfl rfl ?_
  refine zw_iload_n 7 f120_6 rfl rfl ?_
  refine zw_ic_gt_f 10 14 f120_7 (by decide +kernel) rfl h4 ?_
  refine zw_iconst 1 11 f120_10 rfl (by decide +kernel) ?_
  refine zw_goto 15 f120_11 (by decide +kernel) ?_
  refine zw_zreturn f120_15 r120 u120 (by decide +kernel) ⟨_, rfl, ?_⟩
  refine zw_if_ne_t 38 f184_29 (by decide +kernel) (by decide +kernel) ?_
  refine zw_iload_n 39 f184_38 rfl rfl ?_
  refine zw_bipush 8 41 f184_39 rfl (by decide +kernel) ?_
  refine zw_static_i 44 0 0 [.int c, .int 8] [] [(0, .int c), (1, .int 8)] f184_41 rfl k184_313_99 rfl (by decide +kernel) (Nat.le_of_ble_eq_true rfl) (Nat.le_of_ble_eq_true rfl) rfl rfl (by decide +kernel) (by decide +kernel) rfl (Nat.le_of_ble_eq_true rfl) rfl ?_
  refine zw_iload_n 1 f182_0 rfl rfl ?_
  refine zw_iload_n 2 f182_1 rfl rfl ?_
  refine zw_irem (c - c / 8 * 8) 3 f182_2 rfl (by decide +kernel) rfl ?_
  refine zw_iload_n 4 f182_3 rfl rfl ?_
  refine zw_iadd ((c - c / 8 * 8) + 8) 5 f182_4 rfl rfl ?_
  refine zw_iload_n 6 f182_5 rfl rfl ?_
  refine zw_irem (((c - c / 8 * 8) + 8) - ((c - c / 8 * 8) + 8) / 8 * 8) 7 f182_6 rfl (by decide +kernel) rfl ?_
  refine zw_ireturn f182_7 r182 u182 ⟨_, rfl, ?_⟩
  refine zw_istore [(4, .int (((c - c / 8 * 8) + 8) - ((c - c / 8 * 8) + 8) / 8 * 8)), (0, .ref 52), (1, .int 3), (2, .int b), (3, .int c)] 46 f184_44 rfl (by decide +kernel) rfl ?_
  refine zw_iload_n 47 f184_46 rfl rfl ?_
  refine zw_table_i (off := 168) 215 f184_47 (by decide +kernel) (by decide +kernel) (by decide +kernel) ?_
  refine zw_iload_n 216 f184_215 rfl rfl ?_
  refine zw_if_lt_f 219 239 f184_216 (by decide +kernel) rfl h5 ?_
  refine zw_iload_n 220 f184_219 rfl rfl ?_
  refine zw_if_lt_f 223 239 f184_220 (by decide +kernel) rfl h6 ?_
  refine zw_iload_n 224 f184_223 rfl rfl ?_
  refine zw_iload_n 225 f184_224 rfl rfl ?_
  refine zw_iadd (c + b) 226 f184_225 rfl rfl ?_
  refine zw_aload_n 227 f184_226 rfl rfl ?_
  refine zw_getfield 230 f184_227 rfl g184_114_12 (mb_52 x) rfl ?_
  refine zw_ic_gt 233 239 f184_230 (by decide +kernel) rfl (fun hc1 => ?_) (fun hc1 => ?_)
  · refine zw_aload_n 240 f184_239 rfl rfl ?_
    refine zw_bipush 12 242 f184_240 rfl (by decide +kernel) ?_
    refine zw_virtual_i 245 0 0 [.ref 52, .int 12] [(0, .ref 52), (1, .int 12)] f184_242 rfl n184_209 k184_209_12 rfl (mb_52 x) (by decide +kernel) (Nat.le_of_ble_eq_true rfl) rfl rfl (by decide +kernel) (by decide +kernel) rfl (Nat.le_of_ble_eq_true rfl) rfl ?_
    refine zw_aload_n 1 f121_0 rfl rfl ?_
    refine zw_iload_n 2 f121_1 rfl rfl ?_
    refine zw_putfield 5 f121_2 rfl g121_111_12 (mb_52 x) rfl (zg_lt rfl) (by decide +kernel) ?_
    refine zw_iconst (-1) 6 f121_5 rfl (by decide +kernel) ?_
    refine zw_ireturn f121_6 r121 u121 ⟨_, rfl, ?_⟩
    refine zw_goto 258 f184_245 (by decide +kernel) ?_
    refine zw_ireturn f184_258 r184 u184 ?_
    exact rfl
  · refine zw_iload_n 234 f184_233 rfl rfl ?_
    refine zw_bipush 6 236 f184_234 rfl (by decide +kernel) ?_
    refine zw_ic_le_f 239 248 f184_236 (by decide +kernel) rfl (Int32.not_le.mpr h7) ?_
    refine zw_aload_n 240 f184_239 rfl rfl ?_
    refine zw_bipush 12 242 f184_240 rfl (by decide +kernel) ?_
    refine zw_virtual_i 245 0 0 [.ref 52, .int 12] [(0, .ref 52), (1, .int 12)] f184_242 rfl n184_209 k184_209_12 rfl (mb_52 x) (by decide +kernel) (Nat.le_of_ble_eq_true rfl) rfl rfl (by decide +kernel) (by decide +kernel) rfl (Nat.le_of_ble_eq_true rfl) rfl ?_
    refine zw_aload_n 1 f121_0 rfl rfl ?_
    refine zw_iload_n 2 f121_1 rfl rfl ?_
    refine zw_putfield 5 f121_2 rfl g121_111_12 (mb_52 x) rfl (zg_lt rfl) (by decide +kernel) ?_
    refine zw_iconst (-1) 6 f121_5 rfl (by decide +kernel) ?_
    refine zw_ireturn f121_6 r121 u121 ⟨_, rfl, ?_⟩
    refine zw_goto 258 f184_245 (by decide +kernel) ?_
    refine zw_ireturn f184_258 r184 u184 ?_
    exact rfl
set_option maxRecDepth 100000 in
set_option maxHeartbeats 0 in
theorem m_forge_w3e (ro : UInt32 → Nat × (Nat → Int32)) (x : Nat → va_E) (b c : Int32) (h1 : ¬ b < -100) (h2 : ¬ 100 < b) (h3 : ¬ c < -100) (h4 : ¬ 100 < c) (h5 : ¬ b < 0) (h6 : ¬ c < 0) (h7 : ¬ 6 < b) (h8 : 0 < c + b) : zWp ro 184 0 [(0, .ref 52), (1, .int 3), (2, .int b), (3, .int c)] [] (hMx x) 0 0 (fun r _ => r = some (.int (-1))) := by
  refine zw_iload_n 1 f184_0 rfl rfl ?_
  refine zw_iconst 0 2 f184_1 rfl (by decide +kernel) ?_
  refine zw_bipush 6 4 f184_2 rfl (by decide +kernel) ?_
  refine zw_static_i 7 0 0 [.int 3, .int 0, .int 6] [] [(0, .int 3), (1, .int 0), (2, .int 6)] f184_4 rfl k184_117_99 rfl (by decide +kernel) (Nat.le_of_ble_eq_true rfl) (Nat.le_of_ble_eq_true rfl) rfl rfl (by decide +kernel) (by decide +kernel) rfl (Nat.le_of_ble_eq_true rfl) rfl ?_
  refine zw_iload_n 1 f120_0 rfl rfl ?_
  refine zw_iload_n 2 f120_1 rfl rfl ?_
  refine zw_ic_lt_f 5 14 f120_2 (by decide +kernel) rfl (by decide +kernel) ?_
  refine zw_iload_n 6 f120_5 rfl rfl ?_
  refine zw_iload_n 7 f120_6 rfl rfl ?_
  refine zw_ic_gt_f 10 14 f120_7 (by decide +kernel) rfl (by decide +kernel) ?_
  refine zw_iconst 1 11 f120_10 rfl (by decide +kernel) ?_
  refine zw_goto 15 f120_11 (by decide +kernel) ?_
  refine zw_zreturn f120_15 r120 u120 (by decide +kernel) ⟨_, rfl, ?_⟩
  refine zw_if_eq_f 10 32 f184_7 (by decide +kernel) rfl (by decide +kernel) ?_
  refine zw_iload_n 11 f184_10 rfl rfl ?_
  refine zw_bipush (-100) 13 f184_11 rfl (by decide +kernel) ?_
  refine zw_bipush 100 15 f184_13 rfl (by decide +kernel) ?_
  refine zw_static_i 18 0 0 [.int b, .int (-100), .int 100] [] [(0, .int b), (1, .int (-100)), (2, .int 100)] f184_15 rfl k184_117_99 rfl (by decide +kernel) (Nat.le_of_ble_eq_true rfl) (Nat.le_of_ble_eq_true rfl) rfl rfl (by decide +kernel) (by decide +kernel) rfl (Nat.le_of_ble_eq_true rfl) rfl ?_
  refine zw_iload_n 1 f120_0 rfl rfl ?_
  refine zw_iload_n 2 f120_1 rfl rfl ?_
  refine zw_ic_lt_f 5 14 f120_2 (by decide +kernel) rfl h1 ?_
  refine zw_iload_n 6 f120_5 rfl rfl ?_
  refine zw_iload_n 7 f120_6 rfl rfl ?_
  refine zw_ic_gt_f 10 14 f120_7 (by decide +kernel) rfl h2 ?_
  refine zw_iconst 1 11 f120_10 rfl (by decide +kernel) ?_
  refine zw_goto 15 f120_11 (by decide +kernel) ?_
  refine zw_zreturn f120_15 r120 u120 (by decide +kernel) ⟨_, rfl, ?_⟩
  refine zw_if_eq_f 21 32 f184_18 (by decide +kernel) rfl (by decide +kernel) ?_
  refine zw_iload_n 22 f184_21 rfl rfl ?_
  refine zw_bipush (-100) 24 f184_22 rfl (by decide +kernel) ?_
  refine zw_bipush 100 26 f184_24 rfl (by decide +kernel) ?_
  refine zw_static_i 29 0 0 [.int c, .int (-100), .int 100] [] [(0, .int c), (1, .int (-100)), (2, .int 100)] f184_26 rfl k184_117_99 rfl (by decide +kernel) (Nat.le_of_ble_eq_true rfl) (Nat.le_of_ble_eq_true rfl) rfl rfl (by decide +kernel) (by decide +kernel) rfl (Nat.le_of_ble_eq_true rfl) rfl ?_
  refine zw_iload_n 1 f120_0 rfl rfl ?_
  refine zw_iload_n 2 f120_1 rfl rfl ?_
  refine zw_ic_lt_f 5 14 f120_2 (by decide +kernel) rfl h3 ?_
  refine zw_iload_n 6 f120_5 rfl rfl ?_
  refine zw_iload_n 7 f120_6 rfl rfl ?_
  refine zw_ic_gt_f 10 14 f120_7 (by decide +kernel) rfl h4 ?_
  refine zw_iconst 1 11 f120_10 rfl (by decide +kernel) ?_
  refine zw_goto 15 f120_11 (by decide +kernel) ?_
  refine zw_zreturn f120_15 r120 u120 (by decide +kernel) ⟨_, rfl, ?_⟩
  refine zw_if_ne_t 38 f184_29 (by decide +kernel) (by decide +kernel) ?_
  refine zw_iload_n 39 f184_38 rfl rfl ?_
  refine zw_bipush 8 41 f184_39 rfl (by decide +kernel) ?_
  refine zw_static_i 44 0 0 [.int c, .int 8] [] [(0, .int c), (1, .int 8)] f184_41 rfl k184_313_99 rfl (by decide +kernel) (Nat.le_of_ble_eq_true rfl) (Nat.le_of_ble_eq_true rfl) rfl rfl (by decide +kernel) (by decide +kernel) rfl (Nat.le_of_ble_eq_true rfl) rfl ?_
  refine zw_iload_n 1 f182_0 rfl rfl ?_
  refine zw_iload_n 2 f182_1 rfl rfl ?_
  refine zw_irem (c - c / 8 * 8) 3 f182_2 rfl (by decide +kernel) rfl ?_
  refine zw_iload_n 4 f182_3 rfl rfl ?_
  refine zw_iadd ((c - c / 8 * 8) + 8) 5 f182_4 rfl rfl ?_
  refine zw_iload_n 6 f182_5 rfl rfl ?_
  refine zw_irem (((c - c / 8 * 8) + 8) - ((c - c / 8 * 8) + 8) / 8 * 8) 7 f182_6 rfl (by decide +kernel) rfl ?_
  refine zw_ireturn f182_7 r182 u182 ⟨_, rfl, ?_⟩
  refine zw_istore [(4, .int (((c - c / 8 * 8) + 8) - ((c - c / 8 * 8) + 8) / 8 * 8)), (0, .ref 52), (1, .int 3), (2, .int b), (3, .int c)] 46 f184_44 rfl (by decide +kernel) rfl ?_
  refine zw_iload_n 47 f184_46 rfl rfl ?_
  refine zw_table_i (off := 168) 215 f184_47 (by decide +kernel) (by decide +kernel) (by decide +kernel) ?_
  refine zw_iload_n 216 f184_215 rfl rfl ?_
  refine zw_if_lt_f 219 239 f184_216 (by decide +kernel) rfl h5 ?_
  refine zw_iload_n 220 f184_219 rfl rfl ?_
  refine zw_if_lt_f 223 239 f184_220 (by decide +kernel) rfl h6 ?_
  refine zw_iload_n 224 f184_223 rfl rfl ?_
  refine zw_iload_n 225 f184_224 rfl rfl ?_
  refine zw_iadd (c + b) 226 f184_225 rfl rfl ?_
  refine zw_aload_n 227 f184_226 rfl rfl ?_
  refine zw_getfield 230 f184_227 rfl g184_114_12 (mb_52 x) rfl ?_
  refine zw_ic_gt_t 239 f184_230 (by decide +kernel) h8 ?_
  refine zw_aload_n 240 f184_239 rfl rfl ?_
  refine zw_bipush 12 242 f184_240 rfl (by decide +kernel) ?_
  refine zw_virtual_i 245 0 0 [.ref 52, .int 12] [(0, .ref 52), (1, .int 12)] f184_242 rfl n184_209 k184_209_12 rfl (mb_52 x) (by decide +kernel) (Nat.le_of_ble_eq_true rfl) rfl rfl (by decide +kernel) (by decide +kernel) rfl (Nat.le_of_ble_eq_true rfl) rfl ?_
  refine zw_aload_n 1 f121_0 rfl rfl ?_
  refine zw_iload_n 2 f121_1 rfl rfl ?_
  refine zw_putfield 5 f121_2 rfl g121_111_12 (mb_52 x) rfl (zg_lt rfl) (by decide +kernel) ?_
  refine zw_iconst (-1) 6 f121_5 rfl (by decide +kernel) ?_
  refine zw_ireturn f121_6 r121 u121 ⟨_, rfl, ?_⟩
  refine zw_goto 258 f184_245 (by decide +kernel) ?_
  refine zw_ireturn f184_258 r184 u184 ?_
  exact rfl
set_option maxRecDepth 100000 in
set_option maxHeartbeats 0 in
theorem m_forge_w4 (ro : UInt32 → Nat × (Nat → Int32)) (x : Nat → va_E) (b c : Int32) (h1 : ¬ b < -100) (h2 : ¬ 100 < b) (h3 : ¬ c < -100) (h4 : ¬ 100 < c) : zWp ro 184 0 [(0, .ref 52), (1, .int 4), (2, .int b), (3, .int c)] [] (hMx x) 0 0 (fun r _ => r = some (.int 0)) := by
  refine zw_iload_n 1 f184_0 rfl rfl ?_
  refine zw_iconst 0 2 f184_1 rfl (by decide +kernel) ?_
  refine zw_bipush 6 4 f184_2 rfl (by decide +kernel) ?_
  refine zw_static_i 7 0 0 [.int 4, .int 0, .int 6] [] [(0, .int 4), (1, .int 0), (2, .int 6)] f184_4 rfl k184_117_99 rfl (by decide +kernel) (Nat.le_of_ble_eq_true rfl) (Nat.le_of_ble_eq_true rfl) rfl rfl (by decide +kernel) (by decide +kernel) rfl (Nat.le_of_ble_eq_true rfl) rfl ?_
  refine zw_iload_n 1 f120_0 rfl rfl ?_
  refine zw_iload_n 2 f120_1 rfl rfl ?_
  refine zw_ic_lt_f 5 14 f120_2 (by decide +kernel) rfl (by decide +kernel) ?_
  refine zw_iload_n 6 f120_5 rfl rfl ?_
  refine zw_iload_n 7 f120_6 rfl rfl ?_
  refine zw_ic_gt_f 10 14 f120_7 (by decide +kernel) rfl (by decide +kernel) ?_
  refine zw_iconst 1 11 f120_10 rfl (by decide +kernel) ?_
  refine zw_goto 15 f120_11 (by decide +kernel) ?_
  refine zw_zreturn f120_15 r120 u120 (by decide +kernel) ⟨_, rfl, ?_⟩
  refine zw_if_eq_f 10 32 f184_7 (by decide +kernel) rfl (by decide +kernel) ?_
  refine zw_iload_n 11 f184_10 rfl rfl ?_
  refine zw_bipush (-100) 13 f184_11 rfl (by decide +kernel) ?_
  refine zw_bipush 100 15 f184_13 rfl (by decide +kernel) ?_
  refine zw_static_i 18 0 0 [.int b, .int (-100), .int 100] [] [(0, .int b), (1, .int (-100)), (2, .int 100)] f184_15 rfl k184_117_99 rfl (by decide +kernel) (Nat.le_of_ble_eq_true rfl) (Nat.le_of_ble_eq_true rfl) rfl rfl (by decide +kernel) (by decide +kernel) rfl (Nat.le_of_ble_eq_true rfl) rfl ?_
  refine zw_iload_n 1 f120_0 rfl rfl ?_
  refine zw_iload_n 2 f120_1 rfl rfl ?_
  refine zw_ic_lt_f 5 14 f120_2 (by decide +kernel) rfl h1 ?_
  refine zw_iload_n 6 f120_5 rfl rfl ?_
  refine zw_iload_n 7 f120_6 rfl rfl ?_
  refine zw_ic_gt_f 10 14 f120_7 (by decide +kernel) rfl h2 ?_
  refine zw_iconst 1 11 f120_10 rfl (by decide +kernel) ?_
  refine zw_goto 15 f120_11 (by decide +kernel) ?_
  refine zw_zreturn f120_15 r120 u120 (by decide +kernel) ⟨_, rfl, ?_⟩
  refine zw_if_eq_f 21 32 f184_18 (by decide +kernel) rfl (by decide +kernel) ?_
  refine zw_iload_n 22 f184_21 rfl rfl ?_
  refine zw_bipush (-100) 24 f184_22 rfl (by decide +kernel) ?_
  refine zw_bipush 100 26 f184_24 rfl (by decide +kernel) ?_
  refine zw_static_i 29 0 0 [.int c, .int (-100), .int 100] [] [(0, .int c), (1, .int (-100)), (2, .int 100)] f184_26 rfl k184_117_99 rfl (by decide +kernel) (Nat.le_of_ble_eq_true rfl) (Nat.le_of_ble_eq_true rfl) rfl rfl (by decide +kernel) (by decide +kernel) rfl (Nat.le_of_ble_eq_true rfl) rfl ?_
  refine zw_iload_n 1 f120_0 rfl rfl ?_
  refine zw_iload_n 2 f120_1 rfl rfl ?_
  refine zw_ic_lt_f 5 14 f120_2 (by decide +kernel) rfl h3 ?_
  refine zw_iload_n 6 f120_5 rfl rfl ?_
  refine zw_iload_n 7 f120_6 rfl rfl ?_
  refine zw_ic_gt_f 10 14 f120_7 (by decide +kernel) rfl h4 ?_
  refine zw_iconst 1 11 f120_10 rfl (by decide +kernel) ?_
  refine zw_goto 15 f120_11 (by decide +kernel) ?_
  refine zw_zreturn f120_15 r120 u120 (by decide +kernel) ⟨_, rfl, ?_⟩
  refine zw_if_ne_t 38 f184_29 (by decide +kernel) (by decide +kernel) ?_
  refine zw_iload_n 39 f184_38 rfl rfl ?_
  refine zw_bipush 8 41 f184_39 rfl (by decide +kernel) ?_
  refine zw_static_i 44 0 0 [.int c, .int 8] [] [(0, .int c), (1, .int 8)] f184_41 rfl k184_313_99 rfl (by decide +kernel) (Nat.le_of_ble_eq_true rfl) (Nat.le_of_ble_eq_true rfl) rfl rfl (by decide +kernel) (by decide +kernel) rfl (Nat.le_of_ble_eq_true rfl) rfl ?_
  refine zw_iload_n 1 f182_0 rfl rfl ?_
  refine zw_iload_n 2 f182_1 rfl rfl ?_
  refine zw_irem (c - c / 8 * 8) 3 f182_2 rfl (by decide +kernel) rfl ?_
  refine zw_iload_n 4 f182_3 rfl rfl ?_
  refine zw_iadd ((c - c / 8 * 8) + 8) 5 f182_4 rfl rfl ?_
  refine zw_iload_n 6 f182_5 rfl rfl ?_
  refine zw_irem (((c - c / 8 * 8) + 8) - ((c - c / 8 * 8) + 8) / 8 * 8) 7 f182_6 rfl (by decide +kernel) rfl ?_
  refine zw_ireturn f182_7 r182 u182 ⟨_, rfl, ?_⟩
  refine zw_istore [(4, .int (((c - c / 8 * 8) + 8) - ((c - c / 8 * 8) + 8) / 8 * 8)), (0, .ref 52), (1, .int 4), (2, .int b), (3, .int c)] 46 f184_44 rfl (by decide +kernel) rfl ?_
  refine zw_iload_n 47 f184_46 rfl rfl ?_
  refine zw_table_i (off := 212) 259 f184_47 (by decide +kernel) (by decide +kernel) (by decide +kernel) ?_
  refine zw_aload_n 260 f184_259 rfl rfl ?_
  refine zw_iload 262 f184_260 rfl rfl ?_
  refine zw_virtual_i 265 0 0 [.ref 52, .int (((c - c / 8 * 8) + 8) - ((c - c / 8 * 8) + 8) / 8 * 8)] [(0, .ref 52), (1, .int (((c - c / 8 * 8) + 8) - ((c - c / 8 * 8) + 8) / 8 * 8))] f184_262 rfl n184_215 k184_215_12 rfl (mb_52 x) (by decide +kernel) (Nat.le_of_ble_eq_true rfl) rfl rfl (by decide +kernel) (by decide +kernel) rfl (Nat.le_of_ble_eq_true rfl) rfl ?_
  refine zw_iload_n 1 f123_0 rfl rfl ?_
  refine zw_iconst 0 2 f123_1 rfl (by decide +kernel) ?_
  refine zw_aload_n 3 f123_2 rfl rfl ?_
  refine zw_getfield 6 f123_3 rfl g123_114_12 (mb_52 x) rfl ?_
  refine zw_iconst 1 7 f123_6 rfl (by decide +kernel) ?_
  refine zw_isub (-1) 8 f123_7 rfl (by decide +kernel) ?_
  refine zw_static_i 11 0 0 [.int (((c - c / 8 * 8) + 8) - ((c - c / 8 * 8) + 8) / 8 * 8), .int 0, .int (-1)] [] [(0, .int (((c - c / 8 * 8) + 8) - ((c - c / 8 * 8) + 8) / 8 * 8)), (1, .int 0), (2, .int (-1))] f123_8 rfl k123_117_99 rfl (by decide +kernel) (Nat.le_of_ble_eq_true rfl) (Nat.le_of_ble_eq_true rfl) rfl rfl (by decide +kernel) (by decide +kernel) rfl (Nat.le_of_ble_eq_true rfl) rfl ?_
  refine zw_iload_n 1 f120_0 rfl rfl ?_
  refine zw_iload_n 2 f120_1 rfl rfl ?_
  refine zw_ic_lt 5 14 f120_2 (by decide +kernel) rfl (fun hc1 => ?_) (fun hc1 => ?_)
  · refine zw_iconst 0 15 f120_14 rfl (by decide +kernel) ?_
    refine zw_zreturn f120_15 r120 u120 (by decide +kernel) ⟨_, rfl, ?_⟩
    refine zw_zreturn f123_11 r123 u123 (by decide +kernel) ⟨_, rfl, ?_⟩
    refine zw_if_ne_f 268 276 f184_265 (by decide +kernel) rfl (by decide +kernel) ?_
    refine zw_aload_n 269 f184_268 rfl rfl ?_
    refine zw_iconst 0 270 f184_269 rfl (by decide +kernel) ?_
    refine zw_virtual_i 273 0 0 [.ref 52, .int 0] [(0, .ref 52), (1, .int 0)] f184_270 rfl n184_205 k184_205_12 rfl (mb_52 x) (by decide +kernel) (Nat.le_of_ble_eq_true rfl) rfl rfl (by decide +kernel) (by decide +kernel) rfl (Nat.le_of_ble_eq_true rfl) rfl ?_
    refine zw_aload_n 1 f122_0 rfl rfl ?_
    refine zw_iconst 0 2 f122_1 rfl (by decide +kernel) ?_
    refine zw_putfieldS 5 f122_2 rfl g122_111_12 (mb_52 x) rfl rfl (by decide +kernel) ?_
    refine zw_iload_n 6 f122_5 rfl rfl ?_
    refine zw_ireturn f122_6 r122 u122 ⟨_, rfl, ?_⟩
    refine zw_goto 305 f184_273 (by decide +kernel) ?_
    refine zw_ireturn f184_305 r184 u184 ?_
    exact rfl
  · refine zw_iload_n 6 f120_5 rfl rfl ?_
    refine zw_iload_n 7 f120_6 rfl rfl ?_
    refine zw_ic_gt_t 14 f120_7 (by decide +kernel) (zl_m1 hc1) ?_
    refine zw_iconst 0 15 f120_14 rfl (by decide +kernel) ?_
    refine zw_zreturn f120_15 r120 u120 (by decide +kernel) ⟨_, rfl, ?_⟩
    refine zw_zreturn f123_11 r123 u123 (by decide +kernel) ⟨_, rfl, ?_⟩
    refine zw_if_ne_f 268 276 f184_265 (by decide +kernel) rfl (by decide +kernel) ?_
    refine zw_aload_n 269 f184_268 rfl rfl ?_
    refine zw_iconst 0 270 f184_269 rfl (by decide +kernel) ?_
    refine zw_virtual_i 273 0 0 [.ref 52, .int 0] [(0, .ref 52), (1, .int 0)] f184_270 rfl n184_205 k184_205_12 rfl (mb_52 x) (by decide +kernel) (Nat.le_of_ble_eq_true rfl) rfl rfl (by decide +kernel) (by decide +kernel) rfl (Nat.le_of_ble_eq_true rfl) rfl ?_
    refine zw_aload_n 1 f122_0 rfl rfl ?_
    refine zw_iconst 0 2 f122_1 rfl (by decide +kernel) ?_
    refine zw_putfieldS 5 f122_2 rfl g122_111_12 (mb_52 x) rfl rfl (by decide +kernel) ?_
    refine zw_iload_n 6 f122_5 rfl rfl ?_
    refine zw_ireturn f122_6 r122 u122 ⟨_, rfl, ?_⟩
    refine zw_goto 305 f184_273 (by decide +kernel) ?_
    refine zw_ireturn f184_305 r184 u184 ?_
    exact rfl
set_option maxRecDepth 100000 in
set_option maxHeartbeats 0 in
theorem m_forge_w5z (ro : UInt32 → Nat × (Nat → Int32)) (x : Nat → va_E) (c : Int32) (h3 : ¬ c < -100) (h4 : ¬ 100 < c) : zWp ro 184 0 [(0, .ref 52), (1, .int 5), (2, .int 0), (3, .int c)] [] (hMx x) 0 0 (fun r _ => r = some (.int (-1))) := by
  refine zw_iload_n 1 f184_0 rfl rfl ?_
  refine zw_iconst 0 2 f184_1 rfl (by decide +kernel) ?_
  refine zw_bipush 6 4 f184_2 rfl (by decide +kernel) ?_
  refine zw_static_i 7 0 0 [.int 5, .int 0, .int 6] [] [(0, .int 5), (1, .int 0), (2, .int 6)] f184_4 rfl k184_117_99 rfl (by decide +kernel) (Nat.le_of_ble_eq_true rfl) (Nat.le_of_ble_eq_true rfl) rfl rfl (by decide +kernel) (by decide +kernel) rfl (Nat.le_of_ble_eq_true rfl) rfl ?_
  refine zw_iload_n 1 f120_0 rfl rfl ?_
  refine zw_iload_n 2 f120_1 rfl rfl ?_
  refine zw_ic_lt_f 5 14 f120_2 (by decide +kernel) rfl (by decide +kernel) ?_
  refine zw_iload_n 6 f120_5 rfl rfl ?_
  refine zw_iload_n 7 f120_6 rfl rfl ?_
  refine zw_ic_gt_f 10 14 f120_7 (by decide +kernel) rfl (by decide +kernel) ?_
  refine zw_iconst 1 11 f120_10 rfl (by decide +kernel) ?_
  refine zw_goto 15 f120_11 (by decide +kernel) ?_
  refine zw_zreturn f120_15 r120 u120 (by decide +kernel) ⟨_, rfl, ?_⟩
  refine zw_if_eq_f 10 32 f184_7 (by decide +kernel) rfl (by decide +kernel) ?_
  refine zw_iload_n 11 f184_10 rfl rfl ?_
  refine zw_bipush (-100) 13 f184_11 rfl (by decide +kernel) ?_
  refine zw_bipush 100 15 f184_13 rfl (by decide +kernel) ?_
  refine zw_static_i 18 0 0 [.int 0, .int (-100), .int 100] [] [(0, .int 0), (1, .int (-100)), (2, .int 100)] f184_15 rfl k184_117_99 rfl (by decide +kernel) (Nat.le_of_ble_eq_true rfl) (Nat.le_of_ble_eq_true rfl) rfl rfl (by decide +kernel) (by decide +kernel) rfl (Nat.le_of_ble_eq_true rfl) rfl ?_
  refine zw_iload_n 1 f120_0 rfl rfl ?_
  refine zw_iload_n 2 f120_1 rfl rfl ?_
  refine zw_ic_lt_f 5 14 f120_2 (by decide +kernel) rfl (by decide +kernel) ?_
  refine zw_iload_n 6 f120_5 rfl rfl ?_
  refine zw_iload_n 7 f120_6 rfl rfl ?_
  refine zw_ic_gt_f 10 14 f120_7 (by decide +kernel) rfl (by decide +kernel) ?_
  refine zw_iconst 1 11 f120_10 rfl (by decide +kernel) ?_
  refine zw_goto 15 f120_11 (by decide +kernel) ?_
  refine zw_zreturn f120_15 r120 u120 (by decide +kernel) ⟨_, rfl, ?_⟩
  refine zw_if_eq_f 21 32 f184_18 (by decide +kernel) rfl (by decide +kernel) ?_
  refine zw_iload_n 22 f184_21 rfl rfl ?_
  refine zw_bipush (-100) 24 f184_22 rfl (by decide +kernel) ?_
  refine zw_bipush 100 26 f184_24 rfl (by decide +kernel) ?_
  refine zw_static_i 29 0 0 [.int c, .int (-100), .int 100] [] [(0, .int c), (1, .int (-100)), (2, .int 100)] f184_26 rfl k184_117_99 rfl (by decide +kernel) (Nat.le_of_ble_eq_true rfl) (Nat.le_of_ble_eq_true rfl) rfl rfl (by decide +kernel) (by decide +kernel) rfl (Nat.le_of_ble_eq_true rfl) rfl ?_
  refine zw_iload_n 1 f120_0 rfl rfl ?_
  refine zw_iload_n 2 f120_1 rfl rfl ?_
  refine zw_ic_lt_f 5 14 f120_2 (by decide +kernel) rfl h3 ?_
  refine zw_iload_n 6 f120_5 rfl rfl ?_
  refine zw_iload_n 7 f120_6 rfl rfl ?_
  refine zw_ic_gt_f 10 14 f120_7 (by decide +kernel) rfl h4 ?_
  refine zw_iconst 1 11 f120_10 rfl (by decide +kernel) ?_
  refine zw_goto 15 f120_11 (by decide +kernel) ?_
  refine zw_zreturn f120_15 r120 u120 (by decide +kernel) ⟨_, rfl, ?_⟩
  refine zw_if_ne_t 38 f184_29 (by decide +kernel) (by decide +kernel) ?_
  refine zw_iload_n 39 f184_38 rfl rfl ?_
  refine zw_bipush 8 41 f184_39 rfl (by decide +kernel) ?_
  refine zw_static_i 44 0 0 [.int c, .int 8] [] [(0, .int c), (1, .int 8)] f184_41 rfl k184_313_99 rfl (by decide +kernel) (Nat.le_of_ble_eq_true rfl) (Nat.le_of_ble_eq_true rfl) rfl rfl (by decide +kernel) (by decide +kernel) rfl (Nat.le_of_ble_eq_true rfl) rfl ?_
  refine zw_iload_n 1 f182_0 rfl rfl ?_
  refine zw_iload_n 2 f182_1 rfl rfl ?_
  refine zw_irem (c - c / 8 * 8) 3 f182_2 rfl (by decide +kernel) rfl ?_
  refine zw_iload_n 4 f182_3 rfl rfl ?_
  refine zw_iadd ((c - c / 8 * 8) + 8) 5 f182_4 rfl rfl ?_
  refine zw_iload_n 6 f182_5 rfl rfl ?_
  refine zw_irem (((c - c / 8 * 8) + 8) - ((c - c / 8 * 8) + 8) / 8 * 8) 7 f182_6 rfl (by decide +kernel) rfl ?_
  refine zw_ireturn f182_7 r182 u182 ⟨_, rfl, ?_⟩
  refine zw_istore [(4, .int (((c - c / 8 * 8) + 8) - ((c - c / 8 * 8) + 8) / 8 * 8)), (0, .ref 52), (1, .int 5), (2, .int 0), (3, .int c)] 46 f184_44 rfl (by decide +kernel) rfl ?_
  refine zw_iload_n 47 f184_46 rfl rfl ?_
  refine zw_table_i (off := 259) 306 f184_47 (by decide +kernel) (by decide +kernel) (by decide +kernel) ?_
  refine zw_iload_n 307 f184_306 rfl rfl ?_
  refine zw_if_ne_f 310 319 f184_307 (by decide +kernel) rfl (by decide +kernel) ?_
  refine zw_aload_n 311 f184_310 rfl rfl ?_
  refine zw_bipush 15 313 f184_311 rfl (by decide +kernel) ?_
  refine zw_virtual_i 316 0 0 [.ref 52, .int 15] [(0, .ref 52), (1, .int 15)] f184_313 rfl n184_209 k184_209_12 rfl (mb_52 x) (by decide +kernel) (Nat.le_of_ble_eq_true rfl) rfl rfl (by decide +kernel) (by decide +kernel) rfl (Nat.le_of_ble_eq_true rfl) rfl ?_
  refine zw_aload_n 1 f121_0 rfl rfl ?_
  refine zw_iload_n 2 f121_1 rfl rfl ?_
  refine zw_putfield 5 f121_2 rfl g121_111_12 (mb_52 x) rfl (zg_lt rfl) (by decide +kernel) ?_
  refine zw_iconst (-1) 6 f121_5 rfl (by decide +kernel) ?_
  refine zw_ireturn f121_6 r121 u121 ⟨_, rfl, ?_⟩
  refine zw_goto 328 f184_316 (by decide +kernel) ?_
  refine zw_ireturn f184_328 r184 u184 ?_
  exact rfl
