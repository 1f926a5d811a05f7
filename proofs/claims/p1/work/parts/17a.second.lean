set_option maxRecDepth 100000 in
set_option maxHeartbeats 0 in
theorem m_vessel_r1 (ro : UInt32 → Nat × (Nat → Int32)) (x : Nat → va_E) (a b : Int32) (h1 : a < 0) : zWp ro 141 0 [(0, .ref 52), (1, .int a), (2, .int b)] [] (hMx x) 0 0 (fun r _ => r = some (.int (-1))) := by
  refine zw_iload_n 1 f141_0 rfl rfl ?_
  refine zw_iconst 0 2 f141_1 rfl (by decide +kernel) ?_
  refine zw_iconst 4 3 f141_2 rfl (by decide +kernel) ?_
  refine zw_static_i 6 0 0 [.int a, .int 0, .int 4] [] [(0, .int a), (1, .int 0), (2, .int 4)] f141_3 rfl k141_117_99 rfl (by decide +kernel) (Nat.le_of_ble_eq_true rfl) (Nat.le_of_ble_eq_true rfl) rfl rfl (by decide +kernel) (by decide +kernel) rfl (Nat.le_of_ble_eq_true rfl) rfl ?_
  refine zw_iload_n 1 f120_0 rfl rfl ?_
  refine zw_iload_n 2 f120_1 rfl rfl ?_
  refine zw_ic_lt_t 14 f120_2 (by decide +kernel) h1 ?_
  refine zw_iconst 0 15 f120_14 rfl (by decide +kernel) ?_
  refine zw_zreturn f120_15 r120 u120 (by decide +kernel) ⟨_, rfl, ?_⟩
  refine zw_if_eq_t 20 f141_6 (by decide +kernel) (by decide +kernel) ?_
  refine zw_aload_n 21 f141_20 rfl rfl ?_
  refine zw_iconst 1 22 f141_21 rfl (by decide +kernel) ?_
  refine zw_virtual_i 25 0 0 [.ref 52, .int 1] [(0, .ref 52), (1, .int 1)] f141_22 rfl n141_209 k141_209_12 rfl (mb_52 x) (by decide +kernel) (Nat.le_of_ble_eq_true rfl) rfl rfl (by decide +kernel) (by decide +kernel) rfl (Nat.le_of_ble_eq_true rfl) rfl ?_
  refine zw_aload_n 1 f121_0 rfl rfl ?_
  refine zw_iload_n 2 f121_1 rfl rfl ?_
  refine zw_putfield 5 f121_2 rfl g121_111_12 (mb_52 x) rfl (zg_lt rfl) (by decide +kernel) ?_
  refine zw_iconst (-1) 6 f121_5 rfl (by decide +kernel) ?_
  refine zw_ireturn f121_6 r121 u121 ⟨_, rfl, ?_⟩
  refine zw_ireturn f141_25 r141 u141 ?_
  exact rfl
set_option maxRecDepth 100000 in
set_option maxHeartbeats 0 in
theorem m_vessel_r2 (ro : UInt32 → Nat × (Nat → Int32)) (x : Nat → va_E) (a b : Int32) (h1 : ¬ a < 0) (h2 : 4 < a) : zWp ro 141 0 [(0, .ref 52), (1, .int a), (2, .int b)] [] (hMx x) 0 0 (fun r _ => r = some (.int (-1))) := by
  refine zw_iload_n 1 f141_0 rfl rfl ?_
  refine zw_iconst 0 2 f141_1 rfl (by decide +kernel) ?_
  refine zw_iconst 4 3 f141_2 rfl (by decide +kernel) ?_
  refine zw_static_i 6 0 0 [.int a, .int 0, .int 4] [] [(0, .int a), (1, .int 0), (2, .int 4)] f141_3 rfl k141_117_99 rfl (by decide +kernel) (Nat.le_of_ble_eq_true rfl) (Nat.le_of_ble_eq_true rfl) rfl rfl (by decide +kernel) (by decide +kernel) rfl (Nat.le_of_ble_eq_true rfl) rfl ?_
  refine zw_iload_n 1 f120_0 rfl rfl ?_
  refine zw_iload_n 2 f120_1 rfl rfl ?_
  refine zw_ic_lt_f 5 14 f120_2 (by decide +kernel) rfl h1 ?_
  refine zw_iload_n 6 f120_5 rfl rfl ?_
  refine zw_iload_n 7 f120_6 rfl rfl ?_
  refine zw_ic_gt_t 14 f120_7 (by decide +kernel) h2 ?_
  refine zw_iconst 0 15 f120_14 rfl (by decide +kernel) ?_
  refine zw_zreturn f120_15 r120 u120 (by decide +kernel) ⟨_, rfl, ?_⟩
  refine zw_if_eq_t 20 f141_6 (by decide +kernel) (by decide +kernel) ?_
  refine zw_aload_n 21 f141_20 rfl rfl ?_
  refine zw_iconst 1 22 f141_21 rfl (by decide +kernel) ?_
  refine zw_virtual_i 25 0 0 [.ref 52, .int 1] [(0, .ref 52), (1, .int 1)] f141_22 rfl n141_209 k141_209_12 rfl (mb_52 x) (by decide +kernel) (Nat.le_of_ble_eq_true rfl) rfl rfl (by decide +kernel) (by decide +kernel) rfl (Nat.le_of_ble_eq_true rfl) rfl ?_
  refine zw_aload_n 1 f121_0 rfl rfl ?_
  refine zw_iload_n 2 f121_1 rfl rfl ?_
  refine zw_putfield 5 f121_2 rfl g121_111_12 (mb_52 x) rfl (zg_lt rfl) (by decide +kernel) ?_
  refine zw_iconst (-1) 6 f121_5 rfl (by decide +kernel) ?_
  refine zw_ireturn f121_6 r121 u121 ⟨_, rfl, ?_⟩
  refine zw_ireturn f141_25 r141 u141 ?_
  exact rfl
set_option maxRecDepth 100000 in
set_option maxHeartbeats 0 in
theorem m_vessel_r3 (ro : UInt32 → Nat × (Nat → Int32)) (x : Nat → va_E) (a b : Int32) (h1 : ¬ a < 0) (h2 : ¬ 4 < a) (h3 : b < 1) : zWp ro 141 0 [(0, .ref 52), (1, .int a), (2, .int b)] [] (hMx x) 0 0 (fun r _ => r = some (.int (-1))) := by
  refine zw_iload_n 1 f141_0 rfl rfl ?_
  refine zw_iconst 0 2 f141_1 rfl (by decide +kernel) ?_
  refine zw_iconst 4 3 f141_2 rfl (by decide +kernel) ?_
  refine zw_static_i 6 0 0 [.int a, .int 0, .int 4] [] [(0, .int a), (1, .int 0), (2, .int 4)] f141_3 rfl k141_117_99 rfl (by decide +kernel) (Nat.le_of_ble_eq_true rfl) (Nat.le_of_ble_eq_true rfl) rfl rfl (by decide +kernel) (by decide +kernel) rfl (Nat.le_of_ble_eq_true rfl) rfl ?_
  refine zw_iload_n 1 f120_0 rfl rfl ?_
  refine zw_iload_n 2 f120_1 rfl rfl ?_
  refine zw_ic_lt_f 5 14 f120_2 (by decide +kernel) rfl h1 ?_
  refine zw_iload_n 6 f120_5 rfl rfl ?_
  refine zw_iload_n 7 f120_6 rfl rfl ?_
  refine zw_ic_gt_f 10 14 f120_7 (by decide +kernel) rfl h2 ?_
  refine zw_iconst 1 11 f120_10 rfl (by decide +kernel) ?_
  refine zw_goto 15 f120_11 (by decide +kernel) ?_
  refine zw_zreturn f120_15 r120 u120 (by decide +kernel) ⟨_, rfl, ?_⟩
  refine zw_if_eq_f 9 20 f141_6 (by decide +kernel) rfl (by decide +kernel) ?_
  refine zw_iload_n 10 f141_9 rfl rfl ?_
  refine zw_iconst 1 11 f141_10 rfl (by decide +kernel) ?_
  refine zw_sipush 200 14 f141_11 rfl (by decide +kernel) ?_
  refine zw_static_i 17 0 0 [.int b, .int 1, .int 200] [] [(0, .int b), (1, .int 1), (2, .int 200)] f141_14 rfl k141_117_99 rfl (by decide +kernel) (Nat.le_of_ble_eq_true rfl) (Nat.le_of_ble_eq_true rfl) rfl rfl (by decide +kernel) (by decide +kernel) rfl (Nat.le_of_ble_eq_true rfl) rfl ?_
  refine zw_iload_n 1 f120_0 rfl rfl ?_
  refine zw_iload_n 2 f120_1 rfl rfl ?_
  refine zw_ic_lt_t 14 f120_2 (by decide +kernel) h3 ?_
  refine zw_iconst 0 15 f120_14 rfl (by decide +kernel) ?_
  refine zw_zreturn f120_15 r120 u120 (by decide +kernel) ⟨_, rfl, ?_⟩
  refine zw_if_ne_f 20 26 f141_17 (by decide +kernel) rfl (by decide +kernel) ?_
  refine zw_aload_n 21 f141_20 rfl rfl ?_
  refine zw_iconst 1 22 f141_21 rfl (by decide +kernel) ?_
  refine zw_virtual_i 25 0 0 [.ref 52, .int 1] [(0, .ref 52), (1, .int 1)] f141_22 rfl n141_209 k141_209_12 rfl (mb_52 x) (by decide +kernel) (Nat.le_of_ble_eq_true rfl) rfl rfl (by decide +kernel) (by decide +kernel) rfl (Nat.le_of_ble_eq_true rfl) rfl ?_
  refine zw_aload_n 1 f121_0 rfl rfl ?_
  refine zw_iload_n 2 f121_1 rfl rfl ?_
  refine zw_putfield 5 f121_2 rfl g121_111_12 (mb_52 x) rfl (zg_lt rfl) (by decide +kernel) ?_
  refine zw_iconst (-1) 6 f121_5 rfl (by decide +kernel) ?_
  refine zw_ireturn f121_6 r121 u121 ⟨_, rfl, ?_⟩
  refine zw_ireturn f141_25 r141 u141 ?_
  exact rfl
set_option maxRecDepth 100000 in
set_option maxHeartbeats 0 in
theorem m_vessel_r4 (ro : UInt32 → Nat × (Nat → Int32)) (x : Nat → va_E) (a b : Int32) (h1 : ¬ a < 0) (h2 : ¬ 4 < a) (h3 : ¬ b < 1) (h4 : 200 < b) : zWp ro 141 0 [(0, .ref 52), (1, .int a), (2, .int b)] [] (hMx x) 0 0 (fun r _ => r = some (.int (-1))) := by
  refine zw_iload_n 1 f141_0 rfl rfl ?_
  refine zw_iconst 0 2 f141_1 rfl (by decide +kernel) ?_
  refine zw_iconst 4 3 f141_2 rfl (by decide +kernel) ?_
  refine zw_static_i 6 0 0 [.int a, .int 0, .int 4] [] [(0, .int a), (1, .int 0), (2, .int 4)] f141_3 rfl k141_117_99 rfl (by decide +kernel) (Nat.le_of_ble_eq_true rfl) (Nat.le_of_ble_eq_true rfl) rfl rfl (by decide +kernel) (by decide +kernel) rfl (Nat.le_of_ble_eq_true rfl) rfl ?_
  refine zw_iload_n 1 f120_0 rfl rfl ?_
  refine zw_iload_n 2 f120_1 rfl rfl ?_
  refine zw_ic_lt_f 5 14 f120_2 (by decide +kernel) rfl h1 ?_
  refine zw_iload_n 6 f120_5 rfl rfl ?_
  refine zw_iload_n 7 f120_6 rfl rfl ?_
  refine zw_ic_gt_f 10 14 f120_7 (by decide +kernel) rfl h2 ?_
  refine zw_iconst 1 11 f120_10 rfl (by decide +kernel) ?_
  refine zw_goto 15 f120_11 (by decide +kernel) ?_
  refine zw_zreturn f120_15 r120 u120 (by decide +kernel) ⟨_, rfl, ?_⟩
  refine zw_if_eq_f 9 20 f141_6 (by decide +kernel) rfl (by decide +kernel) ?_
  refine zw_iload_n 10 f141_9 rfl rfl ?_
  refine zw_iconst 1 11 f141_10 rfl (by decide +kernel) ?_
  refine zw_sipush 200 14 f141_11 rfl (by decide +kernel) ?_
  refine zw_static_i 17 0 0 [.int b, .int 1, .int 200] [] [(0, .int b), (1, .int 1), (2, .int 200)] f141_14 rfl k141_117_99 rfl (by decide +kernel) (Nat.le_of_ble_eq_true rfl) (Nat.le_of_ble_eq_true rfl) rfl rfl (by decide +kernel) (by decide +kernel) rfl (Nat.le_of_ble_eq_true rfl) rfl ?_
  refine zw_iload_n 1 f120_0 rfl rfl ?_
  refine zw_iload_n 2 f120_1 rfl rfl ?_
  refine zw_ic_lt_f 5 14 f120_2 (by decide +kernel) rfl h3 ?_
  refine zw_iload_n 6 f120_5 rfl rfl ?_
  refine zw_iload_n 7 f120_6 rfl rfl ?_
  refine zw_ic_gt_t 14 f120_7 (by decide +kernel) h4 ?_
  refine zw_iconst 0 15 f120_14 rfl (by decide +kernel) ?_
  refine zw_zreturn f120_15 r120 u120 (by decide +kernel) ⟨_, rfl, ?_⟩
  refine zw_if_ne_f 20 26 f141_17 (by decide +kernel) rfl (by decide +kernel) ?_
  refine zw_aload_n 21 f141_20 rfl rfl ?_
  refine zw_iconst 1 22 f141_21 rfl (by decide +kernel) ?_
  refine zw_virtual_i 25 0 0 [.ref 52, .int 1] [(0, .ref 52), (1, .int 1)] f141_22 rfl n141_209 k141_209_12 rfl (mb_52 x) (by decide +kernel) (Nat.le_of_ble_eq_true rfl) rfl rfl (by decide +kernel) (by decide +kernel) rfl (Nat.le_of_ble_eq_true rfl) rfl ?_
  refine zw_aload_n 1 f121_0 rfl rfl ?_
  refine zw_iload_n 2 f121_1 rfl rfl ?_
  refine zw_putfield 5 f121_2 rfl g121_111_12 (mb_52 x) rfl (zg_lt rfl) (by decide +kernel) ?_
  refine zw_iconst (-1) 6 f121_5 rfl (by decide +kernel) ?_
  refine zw_ireturn f121_6 r121 u121 ⟨_, rfl, ?_⟩
  refine zw_ireturn f141_25 r141 u141 ?_
  exact rfl
set_option maxRecDepth 100000 in
set_option maxHeartbeats 0 in
theorem m_vessel_k0 (ro : UInt32 → Nat × (Nat → Int32)) (x : Nat → va_E) (b : Int32) (h3 : ¬ b < 1) (h4 : ¬ 200 < b) : zWp ro 141 0 [(0, .ref 52), (1, .int 0), (2, .int b)] [] (hMx x) 0 0 (fun r _ => r = some (.int 0)) := by
  refine zw_iload_n 1 f141_0 rfl rfl ?_
  refine zw_iconst 0 2 f141_1 rfl (by decide +kernel) ?_
  refine zw_iconst 4 3 f141_2 rfl (by decide +kernel) ?_
  refine zw_static_i 6 0 0 [.int 0, .int 0, .int 4] [] [(0, .int 0), (1, .int 0), (2, .int 4)] f141_3 rfl k141_117_99 rfl (by decide +kernel) (Nat.le_of_ble_eq_true rfl) (Nat.le_of_ble_eq_true rfl) rfl rfl (by decide +kernel) (by decide +kernel) rfl (Nat.le_of_ble_eq_true rfl) rfl ?_
  refine zw_iload_n 1 f120_0 rfl rfl ?_
  refine zw_iload_n 2 f120_1 rfl rfl ?_
  refine zw_ic_lt_f 5 14 f120_2 (by decide +kernel) rfl (by decide +kernel) ?_
  refine zw_iload_n 6 f120_5 rfl rfl ?_
  refine zw_iload_n 7 f120_6 rfl rfl ?_
  refine zw_ic_gt_f 10 14 f120_7 (by decide +kernel) rfl (by decide +kernel) ?_
  refine zw_iconst 1 11 f120_10 rfl (by decide +kernel) ?_
  refine zw_goto 15 f120_11 (by decide +kernel) ?_
  refine zw_zreturn f120_15 r120 u120 (by decide +kernel) ⟨_, rfl, ?_⟩
  refine zw_if_eq_f 9 20 f141_6 (by decide +kernel) rfl (by decide +kernel) ?_
  refine zw_iload_n 10 f141_9 rfl rfl ?_
  refine zw_iconst 1 11 f141_10 rfl (by decide +kernel) ?_
  refine zw_sipush 200 14 f141_11 rfl (by decide +kernel) ?_
  refine zw_static_i 17 0 0 [.int b, .int 1, .int 200] [] [(0, .int b), (1, .int 1), (2, .int 200)] f141_14 rfl k141_117_99 rfl (by decide +kernel) (Nat.le_of_ble_eq_true rfl) (Nat.le_of_ble_eq_true rfl) rfl rfl (by decide +kernel) (by decide +kernel) rfl (Nat.le_of_ble_eq_true rfl) rfl ?_
  refine zw_iload_n 1 f120_0 rfl rfl ?_
  refine zw_iload_n 2 f120_1 rfl rfl ?_
  refine zw_ic_lt_f 5 14 f120_2 (by decide +kernel) rfl h3 ?_
  refine zw_iload_n 6 f120_5 rfl rfl ?_
  refine zw_iload_n 7 f120_6 rfl rfl ?_
  refine zw_ic_gt_f 10 14 f120_7 (by decide +kernel) rfl h4 ?_
  refine zw_iconst 1 11 f120_10 rfl (by decide +kernel) ?_
  refine zw_goto 15 f120_11 (by decide +kernel) ?_
  refine zw_zreturn f120_15 r120 u120 (by decide +kernel) ⟨_, rfl, ?_⟩
  refine zw_if_ne_t 26 f141_17 (by decide +kernel) (by decide +kernel) ?_
  refine zw_aload_n 27 f141_26 rfl rfl ?_
  refine zw_getfield 30 f141_27 rfl g141_114_12 (mb_52 x) rfl ?_
  refine zw_bipush 8 32 f141_30 rfl (by decide +kernel) ?_
  refine zw_ic_ne_t 41 f141_32 (by decide +kernel) (by decide +kernel) ?_
  refine zw_aload_n 42 f141_41 rfl rfl ?_
  refine zw_getfield 45 f141_42 rfl g141_114_12 (mb_52 x) rfl ?_
  refine zw_istore_n [(3, .int 0), (0, .ref 52), (1, .int 0), (2, .int b)] 46 f141_45 rfl (by decide +kernel) rfl ?_
  refine zw_aload_n 47 f141_46 rfl rfl ?_
  refine zw_dup 48 f141_47 rfl rfl ?_
  refine zw_getfield 51 f141_48 rfl g141_114_12 (mb_52 x) rfl ?_
  refine zw_iconst 1 52 f141_51 rfl (by decide +kernel) ?_
  refine zw_iadd 1 53 f141_52 rfl (by decide +kernel) ?_
  refine zw_putfield 56 f141_53 rfl g141_114_12 (mb_52 x) rfl (zg_lt rfl) (by decide +kernel) ?_
  refine zw_aload_n 57 f141_56 rfl rfl ?_
  refine zw_getfield 60 f141_57 rfl g141_7_12 (zg_eq (mb_52 x)) (zg_ne rfl rfl) ?_
  refine zw_iload_n 61 f141_60 rfl rfl ?_
  refine zw_iload_n 62 f141_61 rfl rfl ?_
  refine zw_iastoreS 0 63 f141_62 rfl (zg_ne rfl (mb_53 x)) (by decide +kernel) (by decide +kernel) (by decide +kernel) rfl ?_
  refine zw_aload_n 64 f141_63 rfl rfl ?_
  refine zw_getfield 67 f141_64 rfl g141_13_12 (zg_eq (mb_52 x)) (zg_ne rfl rfl) ?_
  refine zw_iload_n 68 f141_67 rfl rfl ?_
  refine zw_iload_n 69 f141_68 rfl rfl ?_
  refine zw_iastore 0 70 f141_69 rfl (zg_ne rfl (mb_54 x)) (by decide +kernel) (by decide +kernel) (by decide +kernel) ?_
  refine zw_aload_n 71 f141_70 rfl rfl ?_
  refine zw_getfield 74 f141_71 rfl g141_16_12 (zg_ne rfl (zg_eq (mb_52 x))) (zg_ne rfl rfl) ?_
  refine zw_iload_n 75 f141_74 rfl rfl ?_
  refine zw_iload_n 76 f141_75 rfl rfl ?_
  refine zw_if_eq_t 84 f141_76 (by decide +kernel) (by decide +kernel) ?_
  refine zw_iconst 0 85 f141_84 rfl (by decide +kernel) ?_
  refine zw_goto 89 f141_85 (by decide +kernel) ?_
  refine zw_iastoreS 0 90 f141_89 rfl (zg_ne rfl (zg_ne rfl (mb_55 x))) (by decide +kernel) (by decide +kernel) (by decide +kernel) rfl ?_
  refine zw_aload_n 91 f141_90 rfl rfl ?_
  refine zw_getfield 94 f141_91 rfl g141_19_12 (zg_ne rfl (zg_eq (mb_52 x))) (zg_ne rfl rfl) ?_
  refine zw_iload_n 95 f141_94 rfl rfl ?_
  refine zw_iconst 0 96 f141_95 rfl (by decide +kernel) ?_
  refine zw_iastoreS 0 97 f141_96 rfl (zg_ne rfl (zg_ne rfl (mb_56 x))) (by decide +kernel) (by decide +kernel) (by decide +kernel) rfl ?_
  refine zw_aload_n 98 f141_97 rfl rfl ?_
  refine zw_getfield 101 f141_98 rfl g141_22_12 (zg_ne rfl (zg_eq (mb_52 x))) (zg_ne rfl rfl) ?_
  refine zw_iload_n 102 f141_101 rfl rfl ?_
  refine zw_iconst (-1) 103 f141_102 rfl (by decide +kernel) ?_
  refine zw_iastore 0 104 f141_103 rfl (zg_ne rfl (zg_ne rfl (mb_57 x))) (by decide +kernel) (by decide +kernel) (by decide +kernel) ?_
  refine zw_aload_n 105 f141_104 rfl rfl ?_
  refine zw_getfield 108 f141_105 rfl g141_25_12 (zg_ne rfl (zg_ne rfl (zg_eq (mb_52 x)))) (zg_ne rfl rfl) ?_
  refine zw_iload_n 109 f141_108 rfl rfl ?_
  refine zw_iconst (-1) 110 f141_109 rfl (by decide +kernel) ?_
  refine zw_iastore 0 111 f141_110 rfl (zg_ne rfl (zg_ne rfl (zg_ne rfl (mb_58 x)))) (by decide +kernel) (by decide +kernel) (by decide +kernel) ?_
  refine zw_aload_n 112 f141_111 rfl rfl ?_
  refine zw_getfield 115 f141_112 rfl g141_28_12 (zg_ne rfl (zg_ne rfl (zg_ne rfl (zg_eq (mb_52 x))))) (zg_ne rfl rfl) ?_
  refine zw_iload_n 116 f141_115 rfl rfl ?_
  refine zw_iconst (-1) 117 f141_116 rfl (by decide +kernel) ?_
  refine zw_iastore 0 118 f141_117 rfl (zg_ne rfl (zg_ne rfl (zg_ne rfl (zg_ne rfl (mb_59 x))))) (by decide +kernel) (by decide +kernel) (by decide +kernel) ?_
  refine zw_aload_n 119 f141_118 rfl rfl ?_
  refine zw_iload_n 120 f141_119 rfl rfl ?_
  refine zw_virtual_i 123 0 0 [.ref 52, .int 0] [(0, .ref 52), (1, .int 0)] f141_120 rfl n141_212 k141_212_12 rfl (zg_ne rfl (zg_ne rfl (zg_ne rfl (zg_ne rfl (zg_eq (mb_52 x)))))) (by decide +kernel) (Nat.le_of_ble_eq_true rfl) rfl rfl (by decide +kernel) (by decide +kernel) rfl (Nat.le_of_ble_eq_true rfl) rfl ?_
  refine zw_aload_n 1 f140_0 rfl rfl ?_
  refine zw_virtual_v 4 0 0 [.ref 52] [(0, .ref 52)] f140_1 rfl n140_202 k140_202_12 rfl (zg_ne rfl (zg_ne rfl (zg_ne rfl (zg_ne rfl (zg_eq (mb_52 x)))))) (by decide +kernel) (Nat.le_of_ble_eq_true rfl) rfl rfl (by decide +kernel) (by decide +kernel) rfl (Nat.le_of_ble_eq_true rfl) rfl ?_
  refine zw_iconst 0 1 f138_0 rfl (by decide +kernel) ?_
  refine zw_istore_n [(1, .int 0), (0, .ref 52)] 2 f138_1 rfl (by decide +kernel) rfl ?_
  refine zw_iload_n 3 f138_2 rfl rfl ?_
  refine zw_aload_n 4 f138_3 rfl rfl ?_
  refine zw_getfield 7 f138_4 rfl g138_114_12 (zg_ne rfl (zg_ne rfl (zg_ne rfl (zg_ne rfl (zg_eq (mb_52 x)))))) (zg_eq rfl) ?_
  refine zw_ic_ge_f 10 79 f138_7 (by decide +kernel) rfl (by decide +kernel) ?_
  refine zw_aload_n 11 f138_10 rfl rfl ?_
  refine zw_getfield 14 f138_11 rfl g138_7_12 (zg_ne rfl (zg_ne rfl (zg_ne rfl (zg_ne rfl (zg_eq (mb_52 x)))))) (zg_ne rfl rfl) ?_
  refine zw_iload_n 15 f138_14 rfl rfl ?_
  refine zw_iaload 0 0 16 f138_15 rfl (zg_ne rfl (zg_ne rfl (zg_ne rfl (zg_ne rfl (zg_ne rfl (mb_53 x)))))) (by decide +kernel) (by decide +kernel) (by decide +kernel) rfl ?_
  refine zw_iconst 2 17 f138_16 rfl (by decide +kernel) ?_
  refine zw_ic_ne_t 73 f138_17 (by decide +kernel) (by decide +kernel) ?_
  refine zw_iinc 1 [(1, .int 1), (0, .ref 52)] 76 f138_73 rfl rfl (by decide +kernel) (by decide +kernel) rfl ?_
  refine zw_goto 2 f138_76 (by decide +kernel) ?_
  refine zw_iload_n 3 f138_2 rfl rfl ?_
  refine zw_aload_n 4 f138_3 rfl rfl ?_
  refine zw_getfield 7 f138_4 rfl g138_114_12 (zg_ne rfl (zg_ne rfl (zg_ne rfl (zg_ne rfl (zg_eq (mb_52 x)))))) (zg_eq rfl) ?_
  refine zw_ic_ge_t 79 f138_7 (by decide +kernel) (by decide +kernel) ?_
  refine zw_iconst 0 80 f138_79 rfl (by decide +kernel) ?_
  refine zw_istore_n [(1, .int 0), (0, .ref 52)] 81 f138_80 rfl (by decide +kernel) rfl ?_
  refine zw_iload_n 82 f138_81 rfl rfl ?_
  refine zw_aload_n 83 f138_82 rfl rfl ?_
  refine zw_getfield 86 f138_83 rfl g138_114_12 (zg_ne rfl (zg_ne rfl (zg_ne rfl (zg_ne rfl (zg_eq (mb_52 x)))))) (zg_eq rfl) ?_
  refine zw_ic_ge_f 89 195 f138_86 (by decide +kernel) rfl (by decide +kernel) ?_
  refine zw_aload_n 90 f138_89 rfl rfl ?_
  refine zw_getfield 93 f138_90 rfl g138_7_12 (zg_ne rfl (zg_ne rfl (zg_ne rfl (zg_ne rfl (zg_eq (mb_52 x)))))) (zg_ne rfl rfl) ?_
  refine zw_iload_n 94 f138_93 rfl rfl ?_
  refine zw_iaload 0 0 95 f138_94 rfl (zg_ne rfl (zg_ne rfl (zg_ne rfl (zg_ne rfl (zg_ne rfl (mb_53 x)))))) (by decide +kernel) (by decide +kernel) (by decide +kernel) rfl ?_
  refine zw_iconst 1 96 f138_95 rfl (by decide +kernel) ?_
  refine zw_ic_ne_t 146 f138_96 (by decide +kernel) (by decide +kernel) ?_
  refine zw_aload_n 147 f138_146 rfl rfl ?_
  refine zw_getfield 150 f138_147 rfl g138_7_12 (zg_ne rfl (zg_ne rfl (zg_ne rfl (zg_ne rfl (zg_eq (mb_52 x)))))) (zg_ne rfl rfl) ?_
  refine zw_iload_n 151 f138_150 rfl rfl ?_
  refine zw_iaload 0 0 152 f138_151 rfl (zg_ne rfl (zg_ne rfl (zg_ne rfl (zg_ne rfl (zg_ne rfl (mb_53 x)))))) (by decide +kernel) (by decide +kernel) (by decide +kernel) rfl ?_
  refine zw_iconst 1 153 f138_152 rfl (by decide +kernel) ?_
  refine zw_ic_ne_t 189 f138_153 (by decide +kernel) (by decide +kernel) ?_
  refine zw_iinc 1 [(1, .int 1), (0, .ref 52)] 192 f138_189 rfl rfl (by decide +kernel) (by decide +kernel) rfl ?_
  refine zw_goto 81 f138_192 (by decide +kernel) ?_
  refine zw_iload_n 82 f138_81 rfl rfl ?_
  refine zw_aload_n 83 f138_82 rfl rfl ?_
  refine zw_getfield 86 f138_83 rfl g138_114_12 (zg_ne rfl (zg_ne rfl (zg_ne rfl (zg_ne rfl (zg_eq (mb_52 x)))))) (zg_eq rfl) ?_
  refine zw_ic_ge_t 195 f138_86 (by decide +kernel) (by decide +kernel) ?_
  refine zw_iconst 0 196 f138_195 rfl (by decide +kernel) ?_
  refine zw_istore_n [(1, .int 0), (0, .ref 52)] 197 f138_196 rfl (by decide +kernel) rfl ?_
  refine zw_iload_n 198 f138_197 rfl rfl ?_
  refine zw_aload_n 199 f138_198 rfl rfl ?_
  refine zw_getfield 202 f138_199 rfl g138_114_12 (zg_ne rfl (zg_ne rfl (zg_ne rfl (zg_ne rfl (zg_eq (mb_52 x)))))) (zg_eq rfl) ?_
  refine zw_ic_ge_f 205 234 f138_202 (by decide +kernel) rfl (by decide +kernel) ?_
  refine zw_aload_n 206 f138_205 rfl rfl ?_
  refine zw_iload_n 207 f138_206 rfl rfl ?_
  refine zw_virtual_i 210 0 0 [.ref 52, .int 0] [(0, .ref 52), (1, .int 0)] f138_207 rfl n138_158 k138_158_12 rfl (zg_ne rfl (zg_ne rfl (zg_ne rfl (zg_ne rfl (zg_eq (mb_52 x)))))) (by decide +kernel) (Nat.le_of_ble_eq_true rfl) rfl rfl (by decide +kernel) (by decide +kernel) rfl (Nat.le_of_ble_eq_true rfl) rfl ?_
  refine zw_aload_n 1 f126_0 rfl rfl ?_
  refine zw_getfield 4 f126_1 rfl g126_7_12 (zg_ne rfl (zg_ne rfl (zg_ne rfl (zg_ne rfl (zg_eq (mb_52 x)))))) (zg_ne rfl rfl) ?_
  refine zw_iload_n 5 f126_4 rfl rfl ?_
  refine zw_iaload 0 0 6 f126_5 rfl (zg_ne rfl (zg_ne rfl (zg_ne rfl (zg_ne rfl (zg_ne rfl (mb_53 x)))))) (by decide +kernel) (by decide +kernel) (by decide +kernel) rfl ?_
  refine zw_iconst 3 7 f126_6 rfl (by decide +kernel) ?_
  refine zw_ic_eq_f 10 20 f126_7 (by decide +kernel) rfl (by decide +kernel) ?_
  refine zw_aload_n 11 f126_10 rfl rfl ?_
  refine zw_getfield 14 f126_11 rfl g126_7_12 (zg_ne rfl (zg_ne rfl (zg_ne rfl (zg_ne rfl (zg_eq (mb_52 x)))))) (zg_ne rfl rfl) ?_
  refine zw_iload_n 15 f126_14 rfl rfl ?_
  refine zw_iaload 0 0 16 f126_15 rfl (zg_ne rfl (zg_ne rfl (zg_ne rfl (zg_ne rfl (zg_ne rfl (mb_53 x)))))) (by decide +kernel) (by decide +kernel) (by decide +kernel) rfl ?_
  refine zw_iconst 4 17 f126_16 rfl (by decide +kernel) ?_
  refine zw_ic_ne_t 24 f126_17 (by decide +kernel) (by decide +kernel) ?_
  refine zw_iconst 0 25 f126_24 rfl (by decide +kernel) ?_
  refine zw_zreturn f126_25 r126 u126 (by decide +kernel) ⟨_, rfl, ?_⟩
  refine zw_if_eq_t 228 f138_210 (by decide +kernel) (by decide +kernel) ?_
  refine zw_iinc 1 [(1, .int 1), (0, .ref 52)] 231 f138_228 rfl rfl (by decide +kernel) (by decide +kernel) rfl ?_
  refine zw_goto 197 f138_231 (by decide +kernel) ?_
  refine zw_iload_n 198 f138_197 rfl rfl ?_
  refine zw_aload_n 199 f138_198 rfl rfl ?_
  refine zw_getfield 202 f138_199 rfl g138_114_12 (zg_ne rfl (zg_ne rfl (zg_ne rfl (zg_ne rfl (zg_eq (mb_52 x)))))) (zg_eq rfl) ?_
  refine zw_ic_ge_t 234 f138_202 (by decide +kernel) (by decide +kernel) ?_
  refine zw_aload_n 235 f138_234 rfl rfl ?_
  refine zw_virtual_v 238 0 0 [.ref 52] [(0, .ref 52)] f138_235 rfl n138_199 k138_199_12 rfl (zg_ne rfl (zg_ne rfl (zg_ne rfl (zg_ne rfl (zg_eq (mb_52 x)))))) (by decide +kernel) (Nat.le_of_ble_eq_true rfl) rfl rfl (by decide +kernel) (by decide +kernel) rfl (Nat.le_of_ble_eq_true rfl) rfl ?_
  refine zw_aload_n 1 f135_0 rfl rfl ?_
  refine zw_aload_n 2 f135_1 rfl rfl ?_
  refine zw_getfield 5 f135_2 rfl g135_172_12 (zg_ne rfl (zg_ne rfl (zg_ne rfl (zg_ne rfl (zg_eq (mb_52 x)))))) (zg_ne rfl rfl) ?_
  refine zw_aload_n 6 f135_5 rfl rfl ?_
  refine zw_getfield 9 f135_6 rfl g135_175_12 (zg_ne rfl (zg_ne rfl (zg_ne rfl (zg_ne rfl (zg_eq (mb_52 x)))))) (zg_ne rfl rfl) ?_
  refine zw_aload_n 10 f135_9 rfl rfl ?_
  refine zw_getfield 13 f135_10 rfl g135_178_12 (zg_ne rfl (zg_ne rfl (zg_ne rfl (zg_ne rfl (zg_eq (mb_52 x)))))) (zg_ne rfl rfl) ?_
  refine zw_aload_n 14 f135_13 rfl rfl ?_
  refine zw_getfield 17 f135_14 rfl g135_40_12 (zg_ne rfl (zg_ne rfl (zg_ne rfl (zg_ne rfl (zg_eq (mb_52 x)))))) (zg_ne rfl rfl) ?_
  refine zw_static_l 20 0 0 [.long 0, .long 1] [.long 0, .long 0, .ref 52] [(0, .long 0), (2, .long 1)] f135_17 rfl k135_164_99 rfl (by decide +kernel) (Nat.le_of_ble_eq_true rfl) (Nat.le_of_ble_eq_true rfl) rfl rfl (by decide +kernel) (by decide +kernel) rfl (Nat.le_of_ble_eq_true rfl) rfl ?_
  refine zw_lload_n 1 f125_0 rfl rfl ?_
  refine zw_lconst 0 2 f125_1 rfl (by decide +kernel) ?_
  refine zw_lcmp 0 3 f125_2 rfl (by decide +kernel) ?_
  refine zw_if_ge_t 11 f125_3 (by decide +kernel) (by decide +kernel) ?_
  refine zw_lload_n 12 f125_11 rfl rfl ?_
  refine zw_lstore [(4, .long 0), (0, .long 0), (2, .long 1)] 14 f125_12 rfl (by decide +kernel) rfl ?_
  refine zw_lload_n 15 f125_14 rfl rfl ?_
  refine zw_lstore [(6, .long 1), (4, .long 0), (0, .long 0), (2, .long 1)] 17 f125_15 rfl (by decide +kernel) rfl ?_
  refine zw_lload 19 f125_17 rfl rfl ?_
  refine zw_lconst 0 20 f125_19 rfl (by decide +kernel) ?_
  refine zw_lcmp 1 21 f125_20 rfl (by decide +kernel) ?_
  refine zw_if_eq_f 24 42 f125_21 (by decide +kernel) rfl (by decide +kernel) ?_
  refine zw_lload 26 f125_24 rfl rfl ?_
  refine zw_lload 28 f125_26 rfl rfl ?_
  refine zw_lrem 0 29 f125_28 rfl (by decide +kernel) (by decide +kernel) ?_
  refine zw_lstore [(8, .long 0), (6, .long 1), (4, .long 0), (0, .long 0), (2, .long 1)] 31 f125_29 rfl (by decide +kernel) rfl ?_
  refine zw_lload 33 f125_31 rfl rfl ?_
  refine zw_lstore [(4, .long 1), (8, .long 0), (6, .long 1), (0, .long 0), (2, .long 1)] 35 f125_33 rfl (by decide +kernel) rfl ?_
  refine zw_lload 37 f125_35 rfl rfl ?_
  refine zw_lstore [(6, .long 0), (4, .long 1), (8, .long 0), (0, .long 0), (2, .long 1)] 39 f125_37 rfl (by decide +kernel) rfl ?_
  refine zw_goto 17 f125_39 (by decide +kernel) ?_
  refine zw_lload 19 f125_17 rfl rfl ?_
  refine zw_lconst 0 20 f125_19 rfl (by decide +kernel) ?_
  refine zw_lcmp 0 21 f125_20 rfl (by decide +kernel) ?_
  refine zw_if_eq_t 42 f125_21 (by decide +kernel) (by decide +kernel) ?_
  refine zw_lload 44 f125_42 rfl rfl ?_
  refine zw_lreturn f125_44 r125 u125 ⟨_, rfl, ?_⟩
  refine zw_static_l 23 0 0 [.long 0, .long 1] [.long 0, .ref 52] [(0, .long 0), (2, .long 1)] f135_20 rfl k135_164_99 rfl (by decide +kernel) (Nat.le_of_ble_eq_true rfl) (Nat.le_of_ble_eq_true rfl) rfl rfl (by decide +kernel) (by decide +kernel) rfl (Nat.le_of_ble_eq_true rfl) rfl ?_
  refine zw_lload_n 1 f125_0 rfl rfl ?_
  refine zw_lconst 0 2 f125_1 rfl (by decide +kernel) ?_
  refine zw_lcmp 0 3 f125_2 rfl (by decide +kernel) ?_
  refine zw_if_ge_t 11 f125_3 (by decide +kernel) (by decide +kernel) ?_
  refine zw_lload_n 12 f125_11 rfl rfl ?_
  refine zw_lstore [(4, .long 0), (0, .long 0), (2, .long 1)] 14 f125_12 rfl (by decide +kernel) rfl ?_
  refine zw_lload_n 15 f125_14 rfl rfl ?_
  refine zw_lstore [(6, .long 1), (4, .long 0), (0, .long 0), (2, .long 1)] 17 f125_15 rfl (by decide +kernel) rfl ?_
  refine zw_lload 19 f125_17 rfl rfl ?_
  refine zw_lconst 0 20 f125_19 rfl (by decide +kernel) ?_
  refine zw_lcmp 1 21 f125_20 rfl (by decide +kernel) ?_
  refine zw_if_eq_f 24 42 f125_21 (by decide +kernel) rfl (by decide +kernel) ?_
  refine zw_lload 26 f125_24 rfl rfl ?_
  refine zw_lload 28 f125_26 rfl rfl ?_
  refine zw_lrem 0 29 f125_28 rfl (by decide +kernel) (by decide +kernel) ?_
  refine zw_lstore [(8, .long 0), (6, .long 1), (4, .long 0), (0, .long 0), (2, .long 1)] 31 f125_29 rfl (by decide +kernel) rfl ?_
  refine zw_lload 33 f125_31 rfl rfl ?_
  refine zw_lstore [(4, .long 1), (8, .long 0), (6, .long 1), (0, .long 0), (2, .long 1)] 35 f125_33 rfl (by decide +kernel) rfl ?_
  refine zw_lload 37 f125_35 rfl rfl ?_
  refine zw_lstore [(6, .long 0), (4, .long 1), (8, .long 0), (0, .long 0), (2, .long 1)] 39 f125_37 rfl (by decide +kernel) rfl ?_
  refine zw_goto 17 f125_39 (by decide +kernel) ?_
  refine zw_lload 19 f125_17 rfl rfl ?_
  refine zw_lconst 0 20 f125_19 rfl (by decide +kernel) ?_
  refine zw_lcmp 0 21 f125_20 rfl (by decide +kernel) ?_
  refine zw_if_eq_t 42 f125_21 (by decide +kernel) (by decide +kernel) ?_
  refine zw_lload 44 f125_42 rfl rfl ?_
  refine zw_lreturn f125_44 r125 u125 ⟨_, rfl, ?_⟩
  refine zw_static_l 26 0 0 [.long 0, .long 1] [.ref 52] [(0, .long 0), (2, .long 1)] f135_23 rfl k135_164_99 rfl (by decide +kernel) (Nat.le_of_ble_eq_true rfl) (Nat.le_of_ble_eq_true rfl) rfl rfl (by decide +kernel) (by decide +kernel) rfl (Nat.le_of_ble_eq_true rfl) rfl ?_
  refine zw_lload_n 1 f125_0 rfl rfl ?_
  refine zw_lconst 0 2 f125_1 rfl (by decide +kernel) ?_
  refine zw_lcmp 0 3 f125_2 rfl (by decide +kernel) ?_
  refine zw_if_ge_t 11 f125_3 (by decide +kernel) (by decide +kernel) ?_
  refine zw_lload_n 12 f125_11 rfl rfl ?_
  refine zw_lstore [(4, .long 0), (0, .long 0), (2, .long 1)] 14 f125_12 rfl (by decide +kernel) rfl ?_
  refine zw_lload_n 15 f125_14 rfl rfl ?_
  refine zw_lstore [(6, .long 1), (4, .long 0), (0, .long 0), (2, .long 1)] 17 f125_15 rfl (by decide +kernel) rfl ?_
  refine zw_lload 19 f125_17 rfl rfl ?_
  refine zw_lconst 0 20 f125_19 rfl (by decide +kernel) ?_
  refine zw_lcmp 1 21 f125_20 rfl (by decide +kernel) ?_
  refine zw_if_eq_f 24 42 f125_21 (by decide +kernel) rfl (by decide +kernel) ?_
  refine zw_lload 26 f125_24 rfl rfl ?_
  refine zw_lload 28 f125_26 rfl rfl ?_
  refine zw_lrem 0 29 f125_28 rfl (by decide +kernel) (by decide +kernel) ?_
  refine zw_lstore [(8, .long 0), (6, .long 1), (4, .long 0), (0, .long 0), (2, .long 1)] 31 f125_29 rfl (by decide +kernel) rfl ?_
  refine zw_lload 33 f125_31 rfl rfl ?_
  refine zw_lstore [(4, .long 1), (8, .long 0), (6, .long 1), (0, .long 0), (2, .long 1)] 35 f125_33 rfl (by decide +kernel) rfl ?_
  refine zw_lload 37 f125_35 rfl rfl ?_
  refine zw_lstore [(6, .long 0), (4, .long 1), (8, .long 0), (0, .long 0), (2, .long 1)] 39 f125_37 rfl (by decide +kernel) rfl ?_
  refine zw_goto 17 f125_39 (by decide +kernel) ?_
  refine zw_lload 19 f125_17 rfl rfl ?_
  refine zw_lconst 0 20 f125_19 rfl (by decide +kernel) ?_
  refine zw_lcmp 0 21 f125_20 rfl (by decide +kernel) ?_
  refine zw_if_eq_t 42 f125_21 (by decide +kernel) (by decide +kernel) ?_
  refine zw_lload 44 f125_42 rfl rfl ?_
  refine zw_lreturn f125_44 r125 u125 ⟨_, rfl, ?_⟩
  refine zw_putfield 29 f135_26 rfl g135_161_12 (zg_ne rfl (zg_ne rfl (zg_ne rfl (zg_ne rfl (zg_eq (mb_52 x)))))) rfl (zg_lt (zg_ne rfl rfl)) (by decide +kernel) ?_
  refine zw_iconst 0 30 f135_29 rfl (by decide +kernel) ?_
  refine zw_istore_n [(1, .int 0), (0, .ref 52)] 31 f135_30 rfl (by decide +kernel) rfl ?_
  refine zw_iload_n 32 f135_31 rfl rfl ?_
  refine zw_bipush 8 34 f135_32 rfl (by decide +kernel) ?_
  refine zw_ic_ge_f 37 60 f135_34 (by decide +kernel) rfl (by decide +kernel) ?_
  refine zw_aload_n 38 f135_37 rfl rfl ?_
  refine zw_aload_n 39 f135_38 rfl rfl ?_
  refine zw_getfield 42 f135_39 rfl g135_44_12 (zg_eq (zg_ne rfl (zg_ne rfl (zg_ne rfl (zg_ne rfl (zg_eq (mb_52 x))))))) (zg_ne rfl (zg_ne rfl rfl)) ?_
  refine zw_iload_n 43 f135_42 rfl rfl ?_
  refine zw_laload 0 0 44 f135_43 rfl (zg_ne rfl (zg_ne rfl (zg_ne rfl (zg_ne rfl (zg_ne rfl (zg_ne rfl (mb_63 x))))))) (by decide +kernel) (by decide +kernel) (by decide +kernel) rfl ?_
  refine zw_aload_n 45 f135_44 rfl rfl ?_
  refine zw_getfield 48 f135_45 rfl g135_161_12 (zg_eq (zg_ne rfl (zg_ne rfl (zg_ne rfl (zg_ne rfl (zg_eq (mb_52 x))))))) (zg_eq (zg_ne rfl rfl)) ?_
  refine zw_static_l 51 0 0 [.long 0, .long 1] [.ref 52] [(0, .long 0), (2, .long 1)] f135_48 rfl k135_164_99 rfl (by decide +kernel) (Nat.le_of_ble_eq_true rfl) (Nat.le_of_ble_eq_true rfl) rfl rfl (by decide +kernel) (by decide +kernel) rfl (Nat.le_of_ble_eq_true rfl) rfl ?_
  refine zw_lload_n 1 f125_0 rfl rfl ?_
  refine zw_lconst 0 2 f125_1 rfl (by decide +kernel) ?_
  refine zw_lcmp 0 3 f125_2 rfl (by decide +kernel) ?_
  refine zw_if_ge_t 11 f125_3 (by decide +kernel) (by decide +kernel) ?_
  refine zw_lload_n 12 f125_11 rfl rfl ?_
  refine zw_lstore [(4, .long 0), (0, .long 0), (2, .long 1)] 14 f125_12 rfl (by decide +kernel) rfl ?_
  refine zw_lload_n 15 f125_14 rfl rfl ?_
  refine zw_lstore [(6, .long 1), (4, .long 0), (0, .long 0), (2, .long 1)] 17 f125_15 rfl (by decide +kernel) rfl ?_
  refine zw_lload 19 f125_17 rfl rfl ?_
  refine zw_lconst 0 20 f125_19 rfl (by decide +kernel) ?_
  refine zw_lcmp 1 21 f125_20 rfl (by decide +kernel) ?_
  refine zw_if_eq_f 24 42 f125_21 (by decide +kernel) rfl (by decide +kernel) ?_
  refine zw_lload 26 f125_24 rfl rfl ?_
  refine zw_lload 28 f125_26 rfl rfl ?_
  refine zw_lrem 0 29 f125_28 rfl (by decide +kernel) (by decide +kernel) ?_
  refine zw_lstore [(8, .long 0), (6, .long 1), (4, .long 0), (0, .long 0), (2, .long 1)] 31 f125_29 rfl (by decide +kernel) rfl ?_
  refine zw_lload 33 f125_31 rfl rfl ?_
  refine zw_lstore [(4, .long 1), (8, .long 0), (6, .long 1), (0, .long 0), (2, .long 1)] 35 f125_33 rfl (by decide +kernel) rfl ?_
  refine zw_lload 37 f125_35 rfl rfl ?_
  refine zw_lstore [(6, .long 0), (4, .long 1), (8, .long 0), (0, .long 0), (2, .long 1)] 39 f125_37 rfl (by decide +kernel) rfl ?_
  refine zw_goto 17 f125_39 (by decide +kernel) ?_
  refine zw_lload 19 f125_17 rfl rfl ?_
  refine zw_lconst 0 20 f125_19 rfl (by decide +kernel) ?_
  refine zw_lcmp 0 21 f125_20 rfl (by decide +kernel) ?_
  refine zw_if_eq_t 42 f125_21 (by decide +kernel) (by decide +kernel) ?_
  refine zw_lload 44 f125_42 rfl rfl ?_
  refine zw_lreturn f125_44 r125 u125 ⟨_, rfl, ?_⟩
  refine zw_putfieldS 54 f135_51 rfl g135_161_12 (zg_eq (zg_ne rfl (zg_ne rfl (zg_ne rfl (zg_ne rfl (zg_eq (mb_52 x))))))) rfl (zg_eq (zg_ne rfl rfl)) (by decide +kernel) ?_
  refine zw_iinc 1 [(1, .int 1), (0, .ref 52)] 57 f135_54 rfl rfl (by decide +kernel) (by decide +kernel) rfl ?_
  refine zw_goto 31 f135_57 (by decide +kernel) ?_
  refine zw_iload_n 32 f135_31 rfl rfl ?_
  refine zw_bipush 8 34 f135_32 rfl (by decide +kernel) ?_
  refine zw_ic_ge_f 37 60 f135_34 (by decide +kernel) rfl (by decide +kernel) ?_
  refine zw_aload_n 38 f135_37 rfl rfl ?_
  refine zw_aload_n 39 f135_38 rfl rfl ?_
  refine zw_getfield 42 f135_39 rfl g135_44_12 (zg_eq (zg_ne rfl (zg_ne rfl (zg_ne rfl (zg_ne rfl (zg_eq (mb_52 x))))))) (zg_ne rfl (zg_ne rfl rfl)) ?_
  refine zw_iload_n 43 f135_42 rfl rfl ?_
  refine zw_laload 1 0 44 f135_43 rfl (zg_ne rfl (zg_ne rfl (zg_ne rfl (zg_ne rfl (zg_ne rfl (zg_ne rfl (mb_63 x))))))) (by decide +kernel) (by decide +kernel) (by decide +kernel) rfl ?_
  refine zw_aload_n 45 f135_44 rfl rfl ?_
  refine zw_getfield 48 f135_45 rfl g135_161_12 (zg_eq (zg_ne rfl (zg_ne rfl (zg_ne rfl (zg_ne rfl (zg_eq (mb_52 x))))))) (zg_eq (zg_ne rfl rfl)) ?_
  refine zw_static_l 51 0 0 [.long 0, .long 1] [.ref 52] [(0, .long 0), (2, .long 1)] f135_48 rfl k135_164_99 rfl (by decide +kernel) (Nat.le_of_ble_eq_true rfl) (Nat.le_of_ble_eq_true rfl) rfl rfl (by decide +kernel) (by decide +kernel) rfl (Nat.le_of_ble_eq_true rfl) rfl ?_
  refine zw_lload_n 1 f125_0 rfl rfl ?_
  refine zw_lconst 0 2 f125_1 rfl (by decide +kernel) ?_
  refine zw_lcmp 0 3 f125_2 rfl (by decide +kernel) ?_
  refine zw_if_ge_t 11 f125_3 (by decide +kernel) (by decide +kernel) ?_
  refine zw_lload_n 12 f125_11 rfl rfl ?_
  refine zw_lstore [(4, .long 0), (0, .long 0), (2, .long 1)] 14 f125_12 rfl (by decide +kernel) rfl ?_
  refine zw_lload_n 15 f125_14 rfl rfl ?_
  refine zw_lstore [(6, .long 1), (4, .long 0), (0, .long 0), (2, .long 1)] 17 f125_15 rfl (by decide +kernel) rfl ?_
  refine zw_lload 19 f125_17 rfl rfl ?_
  refine zw_lconst 0 20 f125_19 rfl (by decide +kernel) ?_
  refine zw_lcmp 1 21 f125_20 rfl (by decide +kernel) ?_
  refine zw_if_eq_f 24 42 f125_21 (by decide +kernel) rfl (by decide +kernel) ?_
  refine zw_lload 26 f125_24 rfl rfl ?_
  refine zw_lload 28 f125_26 rfl rfl ?_
  refine zw_lrem 0 29 f125_28 rfl (by decide +kernel) (by decide +kernel) ?_
  refine zw_lstore [(8, .long 0), (6, .long 1), (4, .long 0), (0, .long 0), (2, .long 1)] 31 f125_29 rfl (by decide +kernel) rfl ?_
  refine zw_lload 33 f125_31 rfl rfl ?_
  refine zw_lstore [(4, .long 1), (8, .long 0), (6, .long 1), (0, .long 0), (2, .long 1)] 35 f125_33 rfl (by decide +kernel) rfl ?_
  refine zw_lload 37 f125_35 rfl rfl ?_
  refine zw_lstore [(6, .long 0), (4, .long 1), (8, .long 0), (0, .long 0), (2, .long 1)] 39 f125_37 rfl (by decide +kernel) rfl ?_
  refine zw_goto 17 f125_39 (by decide +kernel) ?_
  refine zw_lload 19 f125_17 rfl rfl ?_
  refine zw_lconst 0 20 f125_19 rfl (by decide +kernel) ?_
  refine zw_lcmp 0 21 f125_20 rfl (by decide +kernel) ?_
  refine zw_if_eq_t 42 f125_21 (by decide +kernel) (by decide +kernel) ?_
  refine zw_lload 44 f125_42 rfl rfl ?_
  refine zw_lreturn f125_44 r125 u125 ⟨_, rfl, ?_⟩
  refine zw_putfieldS 54 f135_51 rfl g135_161_12 (zg_eq (zg_ne rfl (zg_ne rfl (zg_ne rfl (zg_ne rfl (zg_eq (mb_52 x))))))) rfl (zg_eq (zg_ne rfl rfl)) (by decide +kernel) ?_
  refine zw_iinc 2 [(1, .int 2), (0, .ref 52)] 57 f135_54 rfl rfl (by decide +kernel) (by decide +kernel) rfl ?_
  refine zw_goto 31 f135_57 (by decide +kernel) ?_
  refine zw_iload_n 32 f135_31 rfl rfl ?_
  refine zw_bipush 8 34 f135_32 rfl (by decide +kernel) ?_
  refine zw_ic_ge_f 37 60 f135_34 (by decide +kernel) rfl (by decide +kernel) ?_
  refine zw_aload_n 38 f135_37 rfl rfl ?_
  refine zw_aload_n 39 f135_38 rfl rfl ?_
  refine zw_getfield 42 f135_39 rfl g135_44_12 (zg_eq (zg_ne rfl (zg_ne rfl (zg_ne rfl (zg_ne rfl (zg_eq (mb_52 x))))))) (zg_ne rfl (zg_ne rfl rfl)) ?_
  refine zw_iload_n 43 f135_42 rfl rfl ?_
  refine zw_laload 2 0 44 f135_43 rfl (zg_ne rfl (zg_ne rfl (zg_ne rfl (zg_ne rfl (zg_ne rfl (zg_ne rfl (mb_63 x))))))) (by decide +kernel) (by decide +kernel) (by decide +kernel) rfl ?_
  refine zw_aload_n 45 f135_44 rfl rfl ?_
  refine zw_getfield 48 f135_45 rfl g135_161_12 (zg_eq (zg_ne rfl (zg_ne rfl (zg_ne rfl (zg_ne rfl (zg_eq (mb_52 x))))))) (zg_eq (zg_ne rfl rfl)) ?_
  refine zw_static_l 51 0 0 [.long 0, .long 1] [.ref 52] [(0, .long 0), (2, .long 1)] f135_48 rfl k135_164_99 rfl (by decide +kernel) (Nat.le_of_ble_eq_true rfl) (Nat.le_of_ble_eq_true rfl) rfl rfl (by decide +kernel) (by decide +kernel) rfl (Nat.le_of_ble_eq_true rfl) rfl ?_
  refine zw_lload_n 1 f125_0 rfl rfl ?_
  refine zw_lconst 0 2 f125_1 rfl (by decide +kernel) ?_
  refine zw_lcmp 0 3 f125_2 rfl (by decide +kernel) ?_
  refine zw_if_ge_t 11 f125_3 (by decide +kernel) (by decide +kernel) ?_
  refine zw_lload_n 12 f125_11 rfl rfl ?_
  refine zw_lstore [(4, .long 0), (0, .long 0), (2, .long 1)] 14 f125_12 rfl (by decide +kernel) rfl ?_
  refine zw_lload_n 15 f125_14 rfl rfl ?_
  refine zw_lstore [(6, .long 1), (4, .long 0), (0, .long 0), (2, .long 1)] 17 f125_15 rfl (by decide +kernel) rfl ?_
  refine zw_lload 19 f125_17 rfl rfl ?_
  refine zw_lconst 0 20 f125_19 rfl (by decide +kernel) ?_
  refine zw_lcmp 1 21 f125_20 rfl (by decide +kernel) ?_
  refine zw_if_eq_f 24 42 f125_21 (by decide +kernel) rfl (by decide +kernel) ?_
  refine zw_lload 26 f125_24 rfl rfl ?_
  refine zw_lload 28 f125_26 rfl rfl ?_
  refine zw_lrem 0 29 f125_28 rfl (by decide +kernel) (by decide +kernel) ?_
  refine zw_lstore [(8, .long 0), (6, .long 1), (4, .long 0), (0, .long 0), (2, .long 1)] 31 f125_29 rfl (by decide +kernel) rfl ?_
  refine zw_lload 33 f125_31 rfl rfl ?_
  refine zw_lstore [(4, .long 1), (8, .long 0), (6, .long 1), (0, .long 0), (2, .long 1)] 35 f125_33 rfl (by decide +kernel) rfl ?_
  refine zw_lload 37 f125_35 rfl rfl ?_
  refine zw_lstore [(6, .long 0), (4, .long 1), (8, .long 0), (0, .long 0), (2, .long 1)] 39 f125_37 rfl (by decide +kernel) rfl ?_
  refine zw_goto 17 f125_39 (by decide +kernel) ?_
  refine zw_lload 19 f125_17 rfl rfl ?_
  refine zw_lconst 0 20 f125_19 rfl (by decide +kernel) ?_
  refine zw_lcmp 0 21 f125_20 rfl (by decide +kernel) ?_
  refine zw_if_eq_t 42 f125_21 (by decide +kernel) (by decide +kernel) ?_
  refine zw_lload 44 f125_42 rfl rfl ?_
  refine zw_lreturn f125_44 r125 u125 ⟨_, rfl, ?_⟩
  refine zw_putfieldS 54 f135_51 rfl g135_161_12 (zg_eq (zg_ne rfl (zg_ne rfl (zg_ne rfl (zg_ne rfl (zg_eq (mb_52 x))))))) rfl (zg_eq (zg_ne rfl rfl)) (by decide +kernel) ?_
  refine zw_iinc 3 [(1, .int 3), (0, .ref 52)] 57 f135_54 rfl rfl (by decide +kernel) (by decide +kernel) rfl ?_
  refine zw_goto 31 f135_57 (by decide +kernel) ?_
  refine zw_iload_n 32 f135_31 rfl rfl ?_
  refine zw_bipush 8 34 f135_32 rfl (by decide +kernel) ?_
  refine zw_ic_ge_f 37 60 f135_34 (by decide +kernel) rfl (by decide +kernel) ?_
  refine zw_aload_n 38 f135_37 rfl rfl ?_
  refine zw_aload_n 39 f135_38 rfl rfl ?_
  refine zw_getfield 42 f135_39 rfl g135_44_12 (zg_eq (zg_ne rfl (zg_ne rfl (zg_ne rfl (zg_ne rfl (zg_eq (mb_52 x))))))) (zg_ne rfl (zg_ne rfl rfl)) ?_
  refine zw_iload_n 43 f135_42 rfl rfl ?_
  refine zw_laload 3 0 44 f135_43 rfl (zg_ne rfl (zg_ne rfl (zg_ne rfl (zg_ne rfl (zg_ne rfl (zg_ne rfl (mb_63 x))))))) (by decide +kernel) (by decide +kernel) (by decide +kernel) rfl ?_
  refine zw_aload_n 45 f135_44 rfl rfl ?_
  refine zw_getfield 48 f135_45 rfl g135_161_12 (zg_eq (zg_ne rfl (zg_ne rfl (zg_ne rfl (zg_ne rfl (zg_eq (mb_52 x))))))) (zg_eq (zg_ne rfl rfl)) ?_
  refine zw_static_l 51 0 0 [.long 0, .long 1] [.ref 52] [(0, .long 0), (2, .long 1)] f135_48 rfl k135_164_99 rfl (by decide +kernel) (Nat.le_of_ble_eq_true rfl) (Nat.le_of_ble_eq_true rfl) rfl rfl (by decide +kernel) (by decide +kernel) rfl (Nat.le_of_ble_eq_true rfl) rfl ?_
  refine zw_lload_n 1 f125_0 rfl rfl ?_
  refine zw_lconst 0 2 f125_1 rfl (by decide +kernel) ?_
  refine zw_lcmp 0 3 f125_2 rfl (by decide +kernel) ?_
  refine zw_if_ge_t 11 f125_3 (by decide +kernel) (by decide +kernel) ?_
  refine zw_lload_n 12 f125_11 rfl rfl ?_
  refine zw_lstore [(4, .long 0), (0, .long 0), (2, .long 1)] 14 f125_12 rfl (by decide +kernel) rfl ?_
  refine zw_lload_n 15 f125_14 rfl rfl ?_
  refine zw_lstore [(6, .long 1), (4, .long 0), (0, .long 0), (2, .long 1)] 17 f125_15 rfl (by decide +kernel) rfl ?_
  refine zw_lload 19 f125_17 rfl rfl ?_
  refine zw_lconst 0 20 f125_19 rfl (by decide +kernel) ?_
  refine zw_lcmp 1 21 f125_20 rfl (by decide +kernel) ?_
  refine zw_if_eq_f 24 42 f125_21 (by decide +kernel) rfl (by decide +kernel) ?_
  refine zw_lload 26 f125_24 rfl rfl ?_
  refine zw_lload 28 f125_26 rfl rfl ?_
  refine zw_lrem 0 29 f125_28 rfl (by decide +kernel) (by decide +kernel) ?_
  refine zw_lstore [(8, .long 0), (6, .long 1), (4, .long 0), (0, .long 0), (2, .long 1)] 31 f125_29 rfl (by decide +kernel) rfl ?_
  refine zw_lload 33 f125_31 rfl rfl ?_
  refine zw_lstore [(4, .long 1), (8, .long 0), (6, .long 1), (0, .long 0), (2, .long 1)] 35 f125_33 rfl (by decide +kernel) rfl ?_
  refine zw_lload 37 f125_35 rfl rfl ?_
  refine zw_lstore [(6, .long 0), (4, .long 1), (8, .long 0), (0, .long 0), (2, .long 1)] 39 f125_37 rfl (by decide +kernel) rfl ?_
  refine zw_goto 17 f125_39 (by decide +kernel) ?_
  refine zw_lload 19 f125_17 rfl rfl ?_
  refine zw_lconst 0 20 f125_19 rfl (by decide +kernel) ?_
  refine zw_lcmp 0 21 f125_20 rfl (by decide +kernel) ?_
  refine zw_if_eq_t 42 f125_21 (by decide +kernel) (by decide +kernel) ?_
  refine zw_lload 44 f125_42 rfl rfl ?_
  refine zw_lreturn f125_44 r125 u125 ⟨_, rfl, ?_⟩
  refine zw_putfieldS 54 f135_51 rfl g135_161_12 (zg_eq (zg_ne rfl (zg_ne rfl (zg_ne rfl (zg_ne rfl (zg_eq (mb_52 x))))))) rfl (zg_eq (zg_ne rfl rfl)) (by decide +kernel) ?_
  refine zw_iinc 4 [(1, .int 4), (0, .ref 52)] 57 f135_54 rfl rfl (by decide +kernel) (by decide +kernel) rfl ?_
  refine zw_goto 31 f135_57 (by decide +kernel) ?_
  refine zw_iload_n 32 f135_31 rfl rfl ?_
  refine zw_bipush 8 34 f135_32 rfl (by decide +kernel) ?_
  refine zw_ic_ge_f 37 60 f135_34 (by decide +kernel) rfl (by decide +kernel) ?_
  refine zw_aload_n 38 f135_37 rfl rfl ?_
  refine zw_aload_n 39 f135_38 rfl rfl ?_
  refine zw_getfield 42 f135_39 rfl g135_44_12 (zg_eq (zg_ne rfl (zg_ne rfl (zg_ne rfl (zg_ne rfl (zg_eq (mb_52 x))))))) (zg_ne rfl (zg_ne rfl rfl)) ?_
  refine zw_iload_n 43 f135_42 rfl rfl ?_
  refine zw_laload 4 0 44 f135_43 rfl (zg_ne rfl (zg_ne rfl (zg_ne rfl (zg_ne rfl (zg_ne rfl (zg_ne rfl (mb_63 x))))))) (by decide +kernel) (by decide +kernel) (by decide +kernel) rfl ?_
  refine zw_aload_n 45 f135_44 rfl rfl ?_
  refine zw_getfield 48 f135_45 rfl g135_161_12 (zg_eq (zg_ne rfl (zg_ne rfl (zg_ne rfl (zg_ne rfl (zg_eq (mb_52 x))))))) (zg_eq (zg_ne rfl rfl)) ?_
  refine zw_static_l 51 0 0 [.long 0, .long 1] [.ref 52] [(0, .long 0), (2, .long 1)] f135_48 rfl k135_164_99 rfl (by decide +kernel) (Nat.le_of_ble_eq_true rfl) (Nat.le_of_ble_eq_true rfl) rfl rfl (by decide +kernel) (by decide +kernel) rfl (Nat.le_of_ble_eq_true rfl) rfl ?_
  refine zw_lload_n 1 f125_0 rfl rfl ?_
  refine zw_lconst 0 2 f125_1 rfl (by decide +kernel) ?_
  refine zw_lcmp 0 3 f125_2 rfl (by decide +kernel) ?_
  refine zw_if_ge_t 11 f125_3 (by decide +kernel) (by decide +kernel) ?_
  refine zw_lload_n 12 f125_11 rfl rfl ?_
  refine zw_lstore [(4, .long 0), (0, .long 0), (2, .long 1)] 14 f125_12 rfl (by decide +kernel) rfl ?_
  refine zw_lload_n 15 f125_14 rfl rfl ?_
  refine zw_lstore [(6, .long 1), (4, .long 0), (0, .long 0), (2, .long 1)] 17 f125_15 rfl (by decide +kernel) rfl ?_
  refine zw_lload 19 f125_17 rfl rfl ?_
  refine zw_lconst 0 20 f125_19 rfl (by decide +kernel) ?_
  refine zw_lcmp 1 21 f125_20 rfl (by decide +kernel) ?_
  refine zw_if_eq_f 24 42 f125_21 (by decide +kernel) rfl (by decide +kernel) ?_
  refine zw_lload 26 f125_24 rfl rfl ?_
  refine zw_lload 28 f125_26 rfl rfl ?_
  refine zw_lrem 0 29 f125_28 rfl (by decide +kernel) (by decide +kernel) ?_
  refine zw_lstore [(8, .long 0), (6, .long 1), (4, .long 0), (0, .long 0), (2, .long 1)] 31 f125_29 rfl (by decide +kernel) rfl ?_
  refine zw_lload 33 f125_31 rfl rfl ?_
  refine zw_lstore [(4, .long 1), (8, .long 0), (6, .long 1), (0, .long 0), (2, .long 1)] 35 f125_33 rfl (by decide +kernel) rfl ?_
  refine zw_lload 37 f125_35 rfl rfl ?_
  refine zw_lstore [(6, .long 0), (4, .long 1), (8, .long 0), (0, .long 0), (2, .long 1)] 39 f125_37 rfl (by decide +kernel) rfl ?_
  refine zw_goto 17 f125_39 (by decide +kernel) ?_
  refine zw_lload 19 f125_17 rfl rfl ?_
  refine zw_lconst 0 20 f125_19 rfl (by decide +kernel) ?_
  refine zw_lcmp 0 21 f125_20 rfl (by decide +kernel) ?_
  refine zw_if_eq_t 42 f125_21 (by decide +kernel) (by decide +kernel) ?_
  refine zw_lload 44 f125_42 rfl rfl ?_
  refine zw_lreturn f125_44 r125 u125 ⟨_, rfl, ?_⟩
  refine zw_putfieldS 54 f135_51 rfl g135_161_12 (zg_eq (zg_ne rfl (zg_ne rfl (zg_ne rfl (zg_ne rfl (zg_eq (mb_52 x))))))) rfl (zg_eq (zg_ne rfl rfl)) (by decide +kernel) ?_
  refine zw_iinc 5 [(1, .int 5), (0, .ref 52)] 57 f135_54 rfl rfl (by decide +kernel) (by decide +kernel) rfl ?_
  refine zw_goto 31 f135_57 (by decide +kernel) ?_
  refine zw_iload_n 32 f135_31 rfl rfl ?_
  refine zw_bipush 8 34 f135_32 rfl (by decide +kernel) ?_
  refine zw_ic_ge_f 37 60 f135_34 (by decide +kernel) rfl (by decide +kernel) ?_
  refine zw_aload_n 38 f135_37 rfl rfl ?_
  refine zw_aload_n 39 f135_38 rfl rfl ?_
  refine zw_getfield 42 f135_39 rfl g135_44_12 (zg_eq (zg_ne rfl (zg_ne rfl (zg_ne rfl (zg_ne rfl (zg_eq (mb_52 x))))))) (zg_ne rfl (zg_ne rfl rfl)) ?_
  refine zw_iload_n 43 f135_42 rfl rfl ?_
  refine zw_laload 5 0 44 f135_43 rfl (zg_ne rfl (zg_ne rfl (zg_ne rfl (zg_ne rfl (zg_ne rfl (zg_ne rfl (mb_63 x))))))) (by decide +kernel) (by decide +kernel) (by decide +kernel) rfl ?_
  refine zw_aload_n 45 f135_44 rfl rfl ?_
  refine zw_getfield 48 f135_45 rfl g135_161_12 (zg_eq (zg_ne rfl (zg_ne rfl (zg_ne rfl (zg_ne rfl (zg_eq (mb_52 x))))))) (zg_eq (zg_ne rfl rfl)) ?_
  refine zw_static_l 51 0 0 [.long 0, .long 1] [.ref 52] [(0, .long 0), (2, .long 1)] f135_48 rfl k135_164_99 rfl (by decide +kernel) (Nat.le_of_ble_eq_true rfl) (Nat.le_of_ble_eq_true rfl) rfl rfl (by decide +kernel) (by decide +kernel) rfl (Nat.le_of_ble_eq_true rfl) rfl ?_
  refine zw_lload_n 1 f125_0 rfl rfl ?_
  refine zw_lconst 0 2 f125_1 rfl (by decide +kernel) ?_
  refine zw_lcmp 0 3 f125_2 rfl (by decide +kernel) ?_
  refine zw_if_ge_t 11 f125_3 (by decide +kernel) (by decide +kernel) ?_
  refine zw_lload_n 12 f125_11 rfl rfl ?_
  refine zw_lstore [(4, .long 0), (0, .long 0), (2, .long 1)] 14 f125_12 rfl (by decide +kernel) rfl ?_
  refine zw_lload_n 15 f125_14 rfl rfl ?_
  refine zw_lstore [(6, .long 1), (4, .long 0), (0, .long 0), (2, .long 1)] 17 f125_15 rfl (by decide +kernel) rfl ?_
  refine zw_lload 19 f125_17 rfl rfl ?_
  refine zw_lconst 0 20 f125_19 rfl (by decide +kernel) ?_
  refine zw_lcmp 1 21 f125_20 rfl (by decide +kernel) ?_
  refine zw_if_eq_f 24 42 f125_21 (by decide +kernel) rfl (by decide +kernel) ?_
  refine zw_lload 26 f125_24 rfl rfl ?_
  refine zw_lload 28 f125_26 rfl rfl ?_
  refine zw_lrem 0 29 f125_28 rfl (by decide +kernel) (by decide +kernel) ?_
  refine zw_lstore [(8, .long 0), (6, .long 1), (4, .long 0), (0, .long 0), (2, .long 1)] 31 f125_29 rfl (by decide +kernel) rfl ?_
  refine zw_lload 33 f125_31 rfl rfl ?_
  refine zw_lstore [(4, .long 1), (8, .long 0), (6, .long 1), (0, .long 0), (2, .long 1)] 35 f125_33 rfl (by decide +kernel) rfl ?_
  refine zw_lload 37 f125_35 rfl rfl ?_
  refine zw_lstore [(6, .long 0), (4, .long 1), (8, .long 0), (0, .long 0), (2, .long 1)] 39 f125_37 rfl (by decide +kernel) rfl ?_
  refine zw_goto 17 f125_39 (by decide +kernel) ?_
  refine zw_lload 19 f125_17 rfl rfl ?_
  refine zw_lconst 0 20 f125_19 rfl (by decide +kernel) ?_
  refine zw_lcmp 0 21 f125_20 rfl (by decide +kernel) ?_
  refine zw_if_eq_t 42 f125_21 (by decide +kernel) (by decide +kernel) ?_
  refine zw_lload 44 f125_42 rfl rfl ?_
  refine zw_lreturn f125_44 r125 u125 ⟨_, rfl, ?_⟩
  refine zw_putfieldS 54 f135_51 rfl g135_161_12 (zg_eq (zg_ne rfl (zg_ne rfl (zg_ne rfl (zg_ne rfl (zg_eq (mb_52 x))))))) rfl (zg_eq (zg_ne rfl rfl)) (by decide +kernel) ?_
  refine zw_iinc 6 [(1, .int 6), (0, .ref 52)] 57 f135_54 rfl rfl (by decide +kernel) (by decide +kernel) rfl ?_
  refine zw_goto 31 f135_57 (by decide +kernel) ?_
  refine zw_iload_n 32 f135_31 rfl rfl ?_
  refine zw_bipush 8 34 f135_32 rfl (by decide +kernel) ?_
  refine zw_ic_ge_f 37 60 f135_34 (by decide +kernel) rfl (by decide +kernel) ?_
  refine zw_aload_n 38 f135_37 rfl rfl ?_
  refine zw_aload_n 39 f135_38 rfl rfl ?_
  refine zw_getfield 42 f135_39 rfl g135_44_12 (zg_eq (zg_ne rfl (zg_ne rfl (zg_ne rfl (zg_ne rfl (zg_eq (mb_52 x))))))) (zg_ne rfl (zg_ne rfl rfl)) ?_
  refine zw_iload_n 43 f135_42 rfl rfl ?_
  refine zw_laload 6 0 44 f135_43 rfl (zg_ne rfl (zg_ne rfl (zg_ne rfl (zg_ne rfl (zg_ne rfl (zg_ne rfl (mb_63 x))))))) (by decide +kernel) (by decide +kernel) (by decide +kernel) rfl ?_
  refine zw_aload_n 45 f135_44 rfl rfl ?_
  refine zw_getfield 48 f135_45 rfl g135_161_12 (zg_eq (zg_ne rfl (zg_ne rfl (zg_ne rfl (zg_ne rfl (zg_eq (mb_52 x))))))) (zg_eq (zg_ne rfl rfl)) ?_
  refine zw_static_l 51 0 0 [.long 0, .long 1] [.ref 52] [(0, .long 0), (2, .long 1)] f135_48 rfl k135_164_99 rfl (by decide +kernel) (Nat.le_of_ble_eq_true rfl) (Nat.le_of_ble_eq_true rfl) rfl rfl (by decide +kernel) (by decide +kernel) rfl (Nat.le_of_ble_eq_true rfl) rfl ?_
  refine zw_lload_n 1 f125_0 rfl rfl ?_
  refine zw_lconst 0 2 f125_1 rfl (by decide +kernel) ?_
  refine zw_lcmp 0 3 f125_2 rfl (by decide +kernel) ?_
  refine zw_if_ge_t 11 f125_3 (by decide +kernel) (by decide +kernel) ?_
  refine zw_lload_n 12 f125_11 rfl rfl ?_
  refine zw_lstore [(4, .long 0), (0, .long 0), (2, .long 1)] 14 f125_12 rfl (by decide +kernel) rfl ?_
  refine zw_lload_n 15 f125_14 rfl rfl ?_
  refine zw_lstore [(6, .long 1), (4, .long 0), (0, .long 0), (2, .long 1)] 17 f125_15 rfl (by decide +kernel) rfl ?_
  refine zw_lload 19 f125_17 rfl rfl ?_
  refine zw_lconst 0 20 f125_19 rfl (by decide +kernel) ?_
  refine zw_lcmp 1 21 f125_20 rfl (by decide +kernel) ?_
  refine zw_if_eq_f 24 42 f125_21 (by decide +kernel) rfl (by decide +kernel) ?_
  refine zw_lload 26 f125_24 rfl rfl ?_
  refine zw_lload 28 f125_26 rfl rfl ?_
  refine zw_lrem 0 29 f125_28 rfl (by decide +kernel) (by decide +kernel) ?_
  refine zw_lstore [(8, .long 0), (6, .long 1), (4, .long 0), (0, .long 0), (2, .long 1)] 31 f125_29 rfl (by decide +kernel) rfl ?_
  refine zw_lload 33 f125_31 rfl rfl ?_
  refine zw_lstore [(4, .long 1), (8, .long 0), (6, .long 1), (0, .long 0), (2, .long 1)] 35 f125_33 rfl (by decide +kernel) rfl ?_
  refine zw_lload 37 f125_35 rfl rfl ?_
  refine zw_lstore [(6, .long 0), (4, .long 1), (8, .long 0), (0, .long 0), (2, .long 1)] 39 f125_37 rfl (by decide +kernel) rfl ?_
  refine zw_goto 17 f125_39 (by decide +kernel) ?_
  refine zw_lload 19 f125_17 rfl rfl ?_
  refine zw_lconst 0 20 f125_19 rfl (by decide +kernel) ?_
  refine zw_lcmp 0 21 f125_20 rfl (by decide +kernel) ?_
  refine zw_if_eq_t 42 f125_21 (by decide +kernel) (by decide +kernel) ?_
  refine zw_lload 44 f125_42 rfl rfl ?_
  refine zw_lreturn f125_44 r125 u125 ⟨_, rfl, ?_⟩
  refine zw_putfieldS 54 f135_51 rfl g135_161_12 (zg_eq (zg_ne rfl (zg_ne rfl (zg_ne rfl (zg_ne rfl (zg_eq (mb_52 x))))))) rfl (zg_eq (zg_ne rfl rfl)) (by decide +kernel) ?_
  refine zw_iinc 7 [(1, .int 7), (0, .ref 52)] 57 f135_54 rfl rfl (by decide +kernel) (by decide +kernel) rfl ?_
  refine zw_goto 31 f135_57 (by decide +kernel) ?_
  refine zw_iload_n 32 f135_31 rfl rfl ?_
  refine zw_bipush 8 34 f135_32 rfl (by decide +kernel) ?_
  refine zw_ic_ge_f 37 60 f135_34 (by decide +kernel) rfl (by decide +kernel) ?_
  refine zw_aload_n 38 f135_37 rfl rfl ?_
  refine zw_aload_n 39 f135_38 rfl rfl ?_
  refine zw_getfield 42 f135_39 rfl g135_44_12 (zg_eq (zg_ne rfl (zg_ne rfl (zg_ne rfl (zg_ne rfl (zg_eq (mb_52 x))))))) (zg_ne rfl (zg_ne rfl rfl)) ?_
  refine zw_iload_n 43 f135_42 rfl rfl ?_
  refine zw_laload 7 0 44 f135_43 rfl (zg_ne rfl (zg_ne rfl (zg_ne rfl (zg_ne rfl (zg_ne rfl (zg_ne rfl (mb_63 x))))))) (by decide +kernel) (by decide +kernel) (by decide +kernel) rfl ?_
  refine zw_aload_n 45 f135_44 rfl rfl ?_
  refine zw_getfield 48 f135_45 rfl g135_161_12 (zg_eq (zg_ne rfl (zg_ne rfl (zg_ne rfl (zg_ne rfl (zg_eq (mb_52 x))))))) (zg_eq (zg_ne rfl rfl)) ?_
  refine zw_static_l 51 0 0 [.long 0, .long 1] [.ref 52] [(0, .long 0), (2, .long 1)] f135_48 rfl k135_164_99 rfl (by decide +kernel) (Nat.le_of_ble_eq_true rfl) (Nat.le_of_ble_eq_true rfl) rfl rfl (by decide +kernel) (by decide +kernel) rfl (Nat.le_of_ble_eq_true rfl) rfl ?_
  refine zw_lload_n 1 f125_0 rfl rfl ?_
  refine zw_lconst 0 2 f125_1 rfl (by decide +kernel) ?_
  refine zw_lcmp 0 3 f125_2 rfl (by decide +kernel) ?_
  refine zw_if_ge_t 11 f125_3 (by decide +kernel) (by decide +kernel) ?_
  refine zw_lload_n 12 f125_11 rfl rfl ?_
  refine zw_lstore [(4, .long 0), (0, .long 0), (2, .long 1)] 14 f125_12 rfl (by decide +kernel) rfl ?_
  refine zw_lload_n 15 f125_14 rfl rfl ?_
  refine zw_lstore [(6, .long 1), (4, .long 0), (0, .long 0), (2, .long 1)] 17 f125_15 rfl (by decide +kernel) rfl ?_
  refine zw_lload 19 f125_17 rfl rfl ?_
  refine zw_lconst 0 20 f125_19 rfl (by decide +kernel) ?_
  refine zw_lcmp 1 21 f125_20 rfl (by decide +kernel) ?_
  refine zw_if_eq_f 24 42 f125_21 (by decide +kernel) rfl (by decide +kernel) ?_
  refine zw_lload 26 f125_24 rfl rfl ?_
  refine zw_lload 28 f125_26 rfl rfl ?_
  refine zw_lrem 0 29 f125_28 rfl (by decide +kernel) (by decide +kernel) ?_
  refine zw_lstore [(8, .long 0), (6, .long 1), (4, .long 0), (0, .long 0), (2, .long 1)] 31 f125_29 rfl (by decide +kernel) rfl ?_
  refine zw_lload 33 f125_31 rfl rfl ?_
  refine zw_lstore [(4, .long 1), (8, .long 0), (6, .long 1), (0, .long 0), (2, .long 1)] 35 f125_33 rfl (by decide +kernel) rfl ?_
  refine zw_lload 37 f125_35 rfl rfl ?_
  refine zw_lstore [(6, .long 0), (4, .long 1), (8, .long 0), (0, .long 0), (2, .long 1)] 39 f125_37 rfl (by decide +kernel) rfl ?_
  refine zw_goto 17 f125_39 (by decide +kernel) ?_
  refine zw_lload 19 f125_17 rfl rfl ?_
  refine zw_lconst 0 20 f125_19 rfl (by decide +kernel) ?_
  refine zw_lcmp 0 21 f125_20 rfl (by decide +kernel) ?_
  refine zw_if_eq_t 42 f125_21 (by decide +kernel) (by decide +kernel) ?_
  refine zw_lload 44 f125_42 rfl rfl ?_
  refine zw_lreturn f125_44 r125 u125 ⟨_, rfl, ?_⟩
  refine zw_putfieldS 54 f135_51 rfl g135_161_12 (zg_eq (zg_ne rfl (zg_ne rfl (zg_ne rfl (zg_ne rfl (zg_eq (mb_52 x))))))) rfl (zg_eq (zg_ne rfl rfl)) (by decide +kernel) ?_
  refine zw_iinc 8 [(1, .int 8), (0, .ref 52)] 57 f135_54 rfl rfl (by decide +kernel) (by decide +kernel) rfl ?_
  refine zw_goto 31 f135_57 (by decide +kernel) ?_
  refine zw_iload_n 32 f135_31 rfl rfl ?_
  refine zw_bipush 8 34 f135_32 rfl (by decide +kernel) ?_
  refine zw_ic_ge_t 60 f135_34 (by decide +kernel) (by decide +kernel) ?_
  refine zw_aload_n 61 f135_60 rfl rfl ?_
  refine zw_dup 62 f135_61 rfl rfl ?_
  refine zw_getfield 65 f135_62 rfl g135_172_12 (zg_eq (zg_ne rfl (zg_ne rfl (zg_ne rfl (zg_ne rfl (zg_eq (mb_52 x))))))) (zg_ne rfl (zg_ne rfl rfl)) ?_
  refine zw_aload_n 66 f135_65 rfl rfl ?_
  refine zw_getfield 69 f135_66 rfl g135_161_12 (zg_eq (zg_ne rfl (zg_ne rfl (zg_ne rfl (zg_ne rfl (zg_eq (mb_52 x))))))) (zg_eq (zg_ne rfl rfl)) ?_
  refine zw_ldiv 0 70 f135_69 rfl (by decide +kernel) (by decide +kernel) ?_
  refine zw_putfieldS 73 f135_70 rfl g135_172_12 (zg_eq (zg_ne rfl (zg_ne rfl (zg_ne rfl (zg_ne rfl (zg_eq (mb_52 x))))))) rfl (zg_ne rfl (zg_ne rfl rfl)) (by decide +kernel) ?_
  refine zw_aload_n 74 f135_73 rfl rfl ?_
  refine zw_dup 75 f135_74 rfl rfl ?_
  refine zw_getfield 78 f135_75 rfl g135_175_12 (zg_eq (zg_ne rfl (zg_ne rfl (zg_ne rfl (zg_ne rfl (zg_eq (mb_52 x))))))) (zg_ne rfl (zg_ne rfl rfl)) ?_
  refine zw_aload_n 79 f135_78 rfl rfl ?_
  refine zw_getfield 82 f135_79 rfl g135_161_12 (zg_eq (zg_ne rfl (zg_ne rfl (zg_ne rfl (zg_ne rfl (zg_eq (mb_52 x))))))) (zg_eq (zg_ne rfl rfl)) ?_
  refine zw_ldiv 0 83 f135_82 rfl (by decide +kernel) (by decide +kernel) ?_
  refine zw_putfieldS 86 f135_83 rfl g135_175_12 (zg_eq (zg_ne rfl (zg_ne rfl (zg_ne rfl (zg_ne rfl (zg_eq (mb_52 x))))))) rfl (zg_ne rfl (zg_ne rfl rfl)) (by decide +kernel) ?_
  refine zw_aload_n 87 f135_86 rfl rfl ?_
  refine zw_dup 88 f135_87 rfl rfl ?_
  refine zw_getfield 91 f135_88 rfl g135_178_12 (zg_eq (zg_ne rfl (zg_ne rfl (zg_ne rfl (zg_ne rfl (zg_eq (mb_52 x))))))) (zg_ne rfl (zg_ne rfl rfl)) ?_
  refine zw_aload_n 92 f135_91 rfl rfl ?_
  refine zw_getfield 95 f135_92 rfl g135_161_12 (zg_eq (zg_ne rfl (zg_ne rfl (zg_ne rfl (zg_ne rfl (zg_eq (mb_52 x))))))) (zg_eq (zg_ne rfl rfl)) ?_
  refine zw_ldiv 0 96 f135_95 rfl (by decide +kernel) (by decide +kernel) ?_
  refine zw_putfieldS 99 f135_96 rfl g135_178_12 (zg_eq (zg_ne rfl (zg_ne rfl (zg_ne rfl (zg_ne rfl (zg_eq (mb_52 x))))))) rfl (zg_ne rfl (zg_ne rfl rfl)) (by decide +kernel) ?_
  refine zw_iconst 0 100 f135_99 rfl (by decide +kernel) ?_
  refine zw_istore_n [(1, .int 0), (0, .ref 52)] 101 f135_100 rfl (by decide +kernel) rfl ?_
  refine zw_iload_n 102 f135_101 rfl rfl ?_
  refine zw_bipush 8 104 f135_102 rfl (by decide +kernel) ?_
  refine zw_ic_ge_f 107 126 f135_104 (by decide +kernel) rfl (by decide +kernel) ?_
  refine zw_aload_n 108 f135_107 rfl rfl ?_
  refine zw_getfield 111 f135_108 rfl g135_44_12 (zg_eq (zg_ne rfl (zg_ne rfl (zg_ne rfl (zg_ne rfl (zg_eq (mb_52 x))))))) (zg_ne rfl (zg_ne rfl rfl)) ?_
  refine zw_iload_n 112 f135_111 rfl rfl ?_
  refine zw_dup2 113 f135_112 rfl rfl rfl ?_
  refine zw_laload 0 0 114 f135_113 rfl (zg_ne rfl (zg_ne rfl (zg_ne rfl (zg_ne rfl (zg_ne rfl (zg_ne rfl (mb_63 x))))))) (by decide +kernel) (by decide +kernel) (by decide +kernel) rfl ?_
  refine zw_aload_n 115 f135_114 rfl rfl ?_
  refine zw_getfield 118 f135_115 rfl g135_161_12 (zg_eq (zg_ne rfl (zg_ne rfl (zg_ne rfl (zg_ne rfl (zg_eq (mb_52 x))))))) (zg_eq (zg_ne rfl rfl)) ?_
  refine zw_ldiv 0 119 f135_118 rfl (by decide +kernel) (by decide +kernel) ?_
  refine zw_lastoreS 0 120 f135_119 rfl (zg_ne rfl (zg_ne rfl (zg_ne rfl (zg_ne rfl (zg_ne rfl (zg_ne rfl (mb_63 x))))))) (by decide +kernel) (by decide +kernel) (by decide +kernel) rfl ?_
  refine zw_iinc 1 [(1, .int 1), (0, .ref 52)] 123 f135_120 rfl rfl (by decide +kernel) (by decide +kernel) rfl ?_
  refine zw_goto 101 f135_123 (by decide +kernel) ?_
  refine zw_iload_n 102 f135_101 rfl rfl ?_
  refine zw_bipush 8 104 f135_102 rfl (by decide +kernel) ?_
  refine zw_ic_ge_f 107 126 f135_104 (by decide +kernel) rfl (by decide +kernel) ?_
  refine zw_aload_n 108 f135_107 rfl rfl ?_
  refine zw_getfield 111 f135_108 rfl g135_44_12 (zg_eq (zg_ne rfl (zg_ne rfl (zg_ne rfl (zg_ne rfl (zg_eq (mb_52 x))))))) (zg_ne rfl (zg_ne rfl rfl)) ?_
  refine zw_iload_n 112 f135_111 rfl rfl ?_
  refine zw_dup2 113 f135_112 rfl rfl rfl ?_
  refine zw_laload 1 0 114 f135_113 rfl (zg_ne rfl (zg_ne rfl (zg_ne rfl (zg_ne rfl (zg_ne rfl (zg_ne rfl (mb_63 x))))))) (by decide +kernel) (by decide +kernel) (by decide +kernel) rfl ?_
  refine zw_aload_n 115 f135_114 rfl rfl ?_
  refine zw_getfield 118 f135_115 rfl g135_161_12 (zg_eq (zg_ne rfl (zg_ne rfl (zg_ne rfl (zg_ne rfl (zg_eq (mb_52 x))))))) (zg_eq (zg_ne rfl rfl)) ?_
  refine zw_ldiv 0 119 f135_118 rfl (by decide +kernel) (by decide +kernel) ?_
  refine zw_lastoreS 1 120 f135_119 rfl (zg_ne rfl (zg_ne rfl (zg_ne rfl (zg_ne rfl (zg_ne rfl (zg_ne rfl (mb_63 x))))))) (by decide +kernel) (by decide +kernel) (by decide +kernel) rfl ?_
  refine zw_iinc 2 [(1, .int 2), (0, .ref 52)] 123 f135_120 rfl rfl (by decide +kernel) (by decide +kernel) rfl ?_
  refine zw_goto 101 f135_123 (by decide +kernel) ?_
  refine zw_iload_n 102 f135_101 rfl rfl ?_
  refine zw_bipush 8 104 f135_102 rfl (by decide +kernel) ?_
  refine zw_ic_ge_f 107 126 f135_104 (by decide +kernel) rfl (by decide +kernel) ?_
  refine zw_aload_n 108 f135_107 rfl rfl ?_
  refine zw_getfield 111 f135_108 rfl g135_44_12 (zg_eq (zg_ne rfl (zg_ne rfl (zg_ne rfl (zg_ne rfl (zg_eq (mb_52 x))))))) (zg_ne rfl (zg_ne rfl rfl)) ?_
  refine zw_iload_n 112 f135_111 rfl rfl ?_
  refine zw_dup2 113 f135_112 rfl rfl rfl ?_
  refine zw_laload 2 0 114 f135_113 rfl (zg_ne rfl (zg_ne rfl (zg_ne rfl (zg_ne rfl (zg_ne rfl (zg_ne rfl (mb_63 x))))))) (by decide +kernel) (by decide +kernel) (by decide +kernel) rfl ?_
  refine zw_aload_n 115 f135_114 rfl rfl ?_
  refine zw_getfield 118 f135_115 rfl g135_161_12 (zg_eq (zg_ne rfl (zg_ne rfl (zg_ne rfl (zg_ne rfl (zg_eq (mb_52 x))))))) (zg_eq (zg_ne rfl rfl)) ?_
  refine zw_ldiv 0 119 f135_118 rfl (by decide +kernel) (by decide +kernel) ?_
  refine zw_lastoreS 2 120 f135_119 rfl (zg_ne rfl (zg_ne rfl (zg_ne rfl (zg_ne rfl (zg_ne rfl (zg_ne rfl (mb_63 x))))))) (by decide +kernel) (by decide +kernel) (by decide +kernel) rfl ?_
  refine zw_iinc 3 [(1, .int 3), (0, .ref 52)] 123 f135_120 rfl rfl (by decide +kernel) (by decide +kernel) rfl ?_
  refine zw_goto 101 f135_123 (by decide +kernel) ?_
  refine zw_iload_n 102 f135_101 rfl rfl ?_
  refine zw_bipush 8 104 f135_102 rfl (by decide +kernel) ?_
  refine zw_ic_ge_f 107 126 f135_104 (by decide +kernel) rfl (by decide +kernel) ?_
  refine zw_aload_n 108 f135_107 rfl rfl ?_
  refine zw_getfield 111 f135_108 rfl g135_44_12 (zg_eq (zg_ne rfl (zg_ne rfl (zg_ne rfl (zg_ne rfl (zg_eq (mb_52 x))))))) (zg_ne rfl (zg_ne rfl rfl)) ?_
  refine zw_iload_n 112 f135_111 rfl rfl ?_
  refine zw_dup2 113 f135_112 rfl rfl rfl ?_
  refine zw_laload 3 0 114 f135_113 rfl (zg_ne rfl (zg_ne rfl (zg_ne rfl (zg_ne rfl (zg_ne rfl (zg_ne rfl (mb_63 x))))))) (by decide +kernel) (by decide +kernel) (by decide +kernel) rfl ?_
  refine zw_aload_n 115 f135_114 rfl rfl ?_
  refine zw_getfield 118 f135_115 rfl g135_161_12 (zg_eq (zg_ne rfl (zg_ne rfl (zg_ne rfl (zg_ne rfl (zg_eq (mb_52 x))))))) (zg_eq (zg_ne rfl rfl)) ?_
  refine zw_ldiv 0 119 f135_118 rfl (by decide +kernel) (by decide +kernel) ?_
  refine zw_lastoreS 3 120 f135_119 rfl (zg_ne rfl (zg_ne rfl (zg_ne rfl (zg_ne rfl (zg_ne rfl (zg_ne rfl (mb_63 x))))))) (by decide +kernel) (by decide +kernel) (by decide +kernel) rfl ?_
  refine zw_iinc 4 [(1, .int 4), (0, .ref 52)] 123 f135_120 rfl rfl (by decide +kernel) (by decide +kernel) rfl ?_
  refine zw_goto 101 f135_123 (by decide +kernel) ?_
  refine zw_iload_n 102 f135_101 rfl rfl ?_
  refine zw_bipush 8 104 f135_102 rfl (by decide +kernel) ?_
  refine zw_ic_ge_f 107 126 f135_104 (by decide +kernel) rfl (by decide +kernel) ?_
  refine zw_aload_n 108 f135_107 rfl rfl ?_
  refine zw_getfield 111 f135_108 rfl g135_44_12 (zg_eq (zg_ne rfl (zg_ne rfl (zg_ne rfl (zg_ne rfl (zg_eq (mb_52 x))))))) (zg_ne rfl (zg_ne rfl rfl)) ?_
  refine zw_iload_n 112 f135_111 rfl rfl ?_
  refine zw_dup2 113 f135_112 rfl rfl rfl ?_
  refine zw_laload 4 0 114 f135_113 rfl (zg_ne rfl (zg_ne rfl (zg_ne rfl (zg_ne rfl (zg_ne rfl (zg_ne rfl (mb_63 x))))))) (by decide +kernel) (by decide +kernel) (by decide +kernel) rfl ?_
  refine zw_aload_n 115 f135_114 rfl rfl ?_
  refine zw_getfield 118 f135_115 rfl g135_161_12 (zg_eq (zg_ne rfl (zg_ne rfl (zg_ne rfl (zg_ne rfl (zg_eq (mb_52 x))))))) (zg_eq (zg_ne rfl rfl)) ?_
  refine zw_ldiv 0 119 f135_118 rfl (by decide +kernel) (by decide +kernel) ?_
  refine zw_lastoreS 4 120 f135_119 rfl (zg_ne rfl (zg_ne rfl (zg_ne rfl (zg_ne rfl (zg_ne rfl (zg_ne rfl (mb_63 x))))))) (by decide +kernel) (by decide +kernel) (by decide +kernel) rfl ?_
  refine zw_iinc 5 [(1, .int 5), (0, .ref 52)] 123 f135_120 rfl rfl (by decide +kernel) (by decide +kernel) rfl ?_
  refine zw_goto 101 f135_123 (by decide +kernel) ?_
  refine zw_iload_n 102 f135_101 rfl rfl ?_
  refine zw_bipush 8 104 f135_102 rfl (by decide +kernel) ?_
  refine zw_ic_ge_f 107 126 f135_104 (by decide +kernel) rfl (by decide +kernel) ?_
  refine zw_aload_n 108 f135_107 rfl rfl ?_
  refine zw_getfield 111 f135_108 rfl g135_44_12 (zg_eq (zg_ne rfl (zg_ne rfl (zg_ne rfl (zg_ne rfl (zg_eq (mb_52 x))))))) (zg_ne rfl (zg_ne rfl rfl)) ?_
  refine zw_iload_n 112 f135_111 rfl rfl ?_
  refine zw_dup2 113 f135_112 rfl rfl rfl ?_
  refine zw_laload 5 0 114 f135_113 rfl (zg_ne rfl (zg_ne rfl (zg_ne rfl (zg_ne rfl (zg_ne rfl (zg_ne rfl (mb_63 x))))))) (by decide +kernel) (by decide +kernel) (by decide +kernel) rfl ?_
  refine zw_aload_n 115 f135_114 rfl rfl ?_
  refine zw_getfield 118 f135_115 rfl g135_161_12 (zg_eq (zg_ne rfl (zg_ne rfl (zg_ne rfl (zg_ne rfl (zg_eq (mb_52 x))))))) (zg_eq (zg_ne rfl rfl)) ?_
  refine zw_ldiv 0 119 f135_118 rfl (by decide +kernel) (by decide +kernel) ?_
  refine zw_lastoreS 5 120 f135_119 rfl (zg_ne rfl (zg_ne rfl (zg_ne rfl (zg_ne rfl (zg_ne rfl (zg_ne rfl (mb_63 x))))))) (by decide +kernel) (by decide +kernel) (by decide +kernel) rfl ?_
  refine zw_iinc 6 [(1, .int 6), (0, .ref 52)] 123 f135_120 rfl rfl (by decide +kernel) (by decide +kernel) rfl ?_
  refine zw_goto 101 f135_123 (by decide +kernel) ?_
  refine zw_iload_n 102 f135_101 rfl rfl ?_
  refine zw_bipush 8 104 f135_102 rfl (by decide +kernel) ?_
  refine zw_ic_ge_f 107 126 f135_104 (by decide +kernel) rfl (by decide +kernel) ?_
  refine zw_aload_n 108 f135_107 rfl rfl ?_
  refine zw_getfield 111 f135_108 rfl g135_44_12 (zg_eq (zg_ne rfl (zg_ne rfl (zg_ne rfl (zg_ne rfl (zg_eq (mb_52 x))))))) (zg_ne rfl (zg_ne rfl rfl)) ?_
  refine zw_iload_n 112 f135_111 rfl rfl ?_
  refine zw_dup2 113 f135_112 rfl rfl rfl ?_
  refine zw_laload 6 0 114 f135_113 rfl (zg_ne rfl (zg_ne rfl (zg_ne rfl (zg_ne rfl (zg_ne rfl (zg_ne rfl (mb_63 x))))))) (by decide +kernel) (by decide +kernel) (by decide +kernel) rfl ?_
  refine zw_aload_n 115 f135_114 rfl rfl ?_
  refine zw_getfield 118 f135_115 rfl g135_161_12 (zg_eq (zg_ne rfl (zg_ne rfl (zg_ne rfl (zg_ne rfl (zg_eq (mb_52 x))))))) (zg_eq (zg_ne rfl rfl)) ?_
  refine zw_ldiv 0 119 f135_118 rfl (by decide +kernel) (by decide +kernel) ?_
  refine zw_lastoreS 6 120 f135_119 rfl (zg_ne rfl (zg_ne rfl (zg_ne rfl (zg_ne rfl (zg_ne rfl (zg_ne rfl (mb_63 x))))))) (by decide +kernel) (by decide +kernel) (by decide +kernel) rfl ?_
  refine zw_iinc 7 [(1, .int 7), (0, .ref 52)] 123 f135_120 rfl rfl (by decide +kernel) (by decide +kernel) rfl ?_
  refine zw_goto 101 f135_123 (by decide +kernel) ?_
  refine zw_iload_n 102 f135_101 rfl rfl ?_
  refine zw_bipush 8 104 f135_102 rfl (by decide +kernel) ?_
  refine zw_ic_ge_f 107 126 f135_104 (by decide +kernel) rfl (by decide +kernel) ?_
  refine zw_aload_n 108 f135_107 rfl rfl ?_
  refine zw_getfield 111 f135_108 rfl g135_44_12 (zg_eq (zg_ne rfl (zg_ne rfl (zg_ne rfl (zg_ne rfl (zg_eq (mb_52 x))))))) (zg_ne rfl (zg_ne rfl rfl)) ?_
  refine zw_iload_n 112 f135_111 rfl rfl ?_
  refine zw_dup2 113 f135_112 rfl rfl rfl ?_
  refine zw_laload 7 0 114 f135_113 rfl (zg_ne rfl (zg_ne rfl (zg_ne rfl (zg_ne rfl (zg_ne rfl (zg_ne rfl (mb_63 x))))))) (by decide +kernel) (by decide +kernel) (by decide +kernel) rfl ?_
  refine zw_aload_n 115 f135_114 rfl rfl ?_
  refine zw_getfield 118 f135_115 rfl g135_161_12 (zg_eq (zg_ne rfl (zg_ne rfl (zg_ne rfl (zg_ne rfl (zg_eq (mb_52 x))))))) (zg_eq (zg_ne rfl rfl)) ?_
  refine zw_ldiv 0 119 f135_118 rfl (by decide +kernel) (by decide +kernel) ?_
  refine zw_lastoreS 7 120 f135_119 rfl (zg_ne rfl (zg_ne rfl (zg_ne rfl (zg_ne rfl (zg_ne rfl (zg_ne rfl (mb_63 x))))))) (by decide +kernel) (by decide +kernel) (by decide +kernel) rfl ?_
  refine zw_iinc 8 [(1, .int 8), (0, .ref 52)] 123 f135_120 rfl rfl (by decide +kernel) (by decide +kernel) rfl ?_
  refine zw_goto 101 f135_123 (by decide +kernel) ?_
  refine zw_iload_n 102 f135_101 rfl rfl ?_
  refine zw_bipush 8 104 f135_102 rfl (by decide +kernel) ?_
  refine zw_ic_ge_t 126 f135_104 (by decide +kernel) (by decide +kernel) ?_
  refine zw_aload_n 127 f135_126 rfl rfl ?_
  refine zw_dup 128 f135_127 rfl rfl ?_
  refine zw_getfield 131 f135_128 rfl g135_40_12 (zg_eq (zg_ne rfl (zg_ne rfl (zg_ne rfl (zg_ne rfl (zg_eq (mb_52 x))))))) (zg_ne rfl (zg_ne rfl rfl)) ?_
  refine zw_aload_n 132 f135_131 rfl rfl ?_
  refine zw_getfield 135 f135_132 rfl g135_161_12 (zg_eq (zg_ne rfl (zg_ne rfl (zg_ne rfl (zg_ne rfl (zg_eq (mb_52 x))))))) (zg_eq (zg_ne rfl rfl)) ?_
  refine zw_ldiv 1 136 f135_135 rfl (by decide +kernel) (by decide +kernel) ?_
  refine zw_putfieldS 139 f135_136 rfl g135_40_12 (zg_eq (zg_ne rfl (zg_ne rfl (zg_ne rfl (zg_ne rfl (zg_eq (mb_52 x))))))) rfl (zg_ne rfl (zg_ne rfl rfl)) (by decide +kernel) ?_
  refine zw_vreturn f135_139 r135 u135 ⟨rfl, ?_⟩
  refine zw_vreturn f138_238 r138 u138 ⟨rfl, ?_⟩
  refine zw_aload_n 5 f140_4 rfl rfl ?_
  refine zw_iload_n 6 f140_5 rfl rfl ?_
  refine zw_virtual_i 9 0 0 [.ref 52, .int 0] [(0, .ref 52), (1, .int 0)] f140_6 rfl n140_205 k140_205_12 rfl (zg_eq (zg_ne rfl (zg_ne rfl (zg_ne rfl (zg_ne rfl (zg_eq (mb_52 x))))))) (by decide +kernel) (Nat.le_of_ble_eq_true rfl) rfl rfl (by decide +kernel) (by decide +kernel) rfl (Nat.le_of_ble_eq_true rfl) rfl ?_
  refine zw_aload_n 1 f122_0 rfl rfl ?_
  refine zw_iconst 0 2 f122_1 rfl (by decide +kernel) ?_
  refine zw_putfieldS 5 f122_2 rfl g122_111_12 (zg_eq (zg_ne rfl (zg_ne rfl (zg_ne rfl (zg_ne rfl (zg_eq (mb_52 x))))))) rfl (zg_ne rfl (zg_ne rfl rfl)) (by decide +kernel) ?_
  refine zw_iload_n 6 f122_5 rfl rfl ?_
  refine zw_ireturn f122_6 r122 u122 ⟨_, rfl, ?_⟩
  refine zw_ireturn f140_9 r140 u140 ⟨_, rfl, ?_⟩
  refine zw_ireturn f141_123 r141 u141 ?_
  exact rfl
set_option maxRecDepth 100000 in
set_option maxHeartbeats 0 in
theorem m_vessel_k1 (ro : UInt32 → Nat × (Nat → Int32)) (x : Nat → va_E) (b : Int32) (h3 : ¬ b < 1) (h4 : ¬ 200 < b) : zWp ro 141 0 [(0, .ref 52), (1, .int 1), (2, .int b)] [] (hMx x) 0 0 (fun r _ => r = some (.int 0)) := by
  refine zw_iload_n 1 f141_0 rfl rfl ?_
  refine zw_iconst 0 2 f141_1 rfl (by decide +kernel) ?_
  refine zw_iconst 4 3 f141_2 rfl (by decide +kernel) ?_
  refine zw_static_i 6 0 0 [.int 1, .int 0, .int 4] [] [(0, .int 1), (1, .int 0), (2, .int 4)] f141_3 rfl k141_117_99 rfl (by decide +kernel) (Nat.le_of_ble_eq_true rfl) (Nat.le_of_ble_eq_true rfl) rfl rfl (by decide +kernel) (by decide +kernel) rfl (Nat.le_of_ble_eq_true rfl) rfl ?_
  refine zw_iload_n 1 f120_0 rfl rfl ?_
  refine zw_iload_n 2 f120_1 rfl rfl ?_
  refine zw_ic_lt_f 5 14 f120_2 (by decide +kernel) rfl (by decide +kernel) ?_
  refine zw_iload_n 6 f120_5 rfl rfl ?_
  refine zw_iload_n 7 f120_6 rfl rfl ?_
  refine zw_ic_gt_f 10 14 f120_7 (by decide +kernel) rfl (by decide +kernel) ?_
  refine zw_iconst 1 11 f120_10 rfl (by decide +kernel) ?_
  refine zw_goto 15 f120_11 (by decide +kernel) ?_
  refine zw_zreturn f120_15 r120 u120 (by decide +kernel) ⟨_, rfl, ?_⟩
  refine zw_if_eq_f 9 20 f141_6 (by decide +kernel) rfl (by decide +kernel) ?_
  refine zw_iload_n 10 f141_9 rfl rfl ?_
  refine zw_iconst 1 11 f141_10 rfl (by decide +kernel) ?_
  refine zw_sipush 200 14 f141_11 rfl (by decide +kernel) ?_
  refine zw_static_i 17 0 0 [.int b, .int 1, .int 200] [] [(0, .int b), (1, .int 1), (2, .int 200)] f141_14 rfl k141_117_99 rfl (by decide +kernel) (Nat.le_of_ble_eq_true rfl) (Nat.le_of_ble_eq_true rfl) rfl rfl (by decide +kernel) (by decide +kernel) rfl (Nat.le_of_ble_eq_true rfl) rfl ?_
  refine zw_iload_n 1 f120_0 rfl rfl ?_
  refine zw_iload_n 2 f120_1 rfl rfl ?_
  refine zw_ic_lt_f 5 14 f120_2 (by decide +kernel) rfl h3 ?_
  refine zw_iload_n 6 f120_5 rfl rfl ?_
  refine zw_iload_n 7 f120_6 rfl rfl ?_
  refine zw_ic_gt_f 10 14 f120_7 (by decide +kernel) rfl h4 ?_
  refine zw_iconst 1 11 f120_10 rfl (by decide +kernel) ?_
  refine zw_goto 15 f120_11 (by decide +kernel) ?_
  refine zw_zreturn f120_15 r120 u120 (by decide +kernel) ⟨_, rfl, ?_⟩
  refine zw_if_ne_t 26 f141_17 (by decide +kernel) (by decide +kernel) ?_
  refine zw_aload_n 27 f141_26 rfl rfl ?_
  refine zw_getfield 30 f141_27 rfl g141_114_12 (mb_52 x) rfl ?_
  refine zw_bipush 8 32 f141_30 rfl (by decide +kernel) ?_
  refine zw_ic_ne_t 41 f141_32 (by decide +kernel) (by decide +kernel) ?_
  refine zw_aload_n 42 f141_41 rfl rfl ?_
  refine zw_getfield 45 f141_42 rfl g141_114_12 (mb_52 x) rfl ?_
  refine zw_istore_n [(3, .int 0), (0, .ref 52), (1, .int 1), (2, .int b)] 46 f141_45 rfl (by decide +kernel) rfl ?_
  refine zw_aload_n 47 f141_46 rfl rfl ?_
  refine zw_dup 48 f141_47 rfl rfl ?_
  refine zw_getfield 51 f141_48 rfl g141_114_12 (mb_52 x) rfl ?_
  refine zw_iconst 1 52 f141_51 rfl (by decide +kernel) ?_
  refine zw_iadd 1 53 f141_52 rfl (by decide +kernel) ?_
  refine zw_putfield 56 f141_53 rfl g141_114_12 (mb_52 x) rfl (zg_lt rfl) (by decide +kernel) ?_
  refine zw_aload_n 57 f141_56 rfl rfl ?_
  refine zw_getfield 60 f141_57 rfl g141_7_12 (zg_eq (mb_52 x)) (zg_ne rfl rfl) ?_
  refine zw_iload_n 61 f141_60 rfl rfl ?_
  refine zw_iload_n 62 f141_61 rfl rfl ?_
  refine zw_iastore 0 63 f141_62 rfl (zg_ne rfl (mb_53 x)) (by decide +kernel) (by decide +kernel) (by decide +kernel) ?_
  refine zw_aload_n 64 f141_63 rfl rfl ?_
  refine zw_getfield 67 f141_64 rfl g141_13_12 (zg_ne rfl (zg_eq (mb_52 x))) (zg_ne rfl rfl) ?_
  refine zw_iload_n 68 f141_67 rfl rfl ?_
  refine zw_iload_n 69 f141_68 rfl rfl ?_
  refine zw_iastore 0 70 f141_69 rfl (zg_ne rfl (zg_ne rfl (mb_54 x))) (by decide +kernel) (by decide +kernel) (by decide +kernel) ?_
  refine zw_aload_n 71 f141_70 rfl rfl ?_
  refine zw_getfield 74 f141_71 rfl g141_16_12 (zg_ne rfl (zg_ne rfl (zg_eq (mb_52 x)))) (zg_ne rfl rfl) ?_
  refine zw_iload_n 75 f141_74 rfl rfl ?_
  refine zw_iload_n 76 f141_75 rfl rfl ?_
  refine zw_if_eq_f 79 84 f141_76 (by decide +kernel) rfl (by decide +kernel) ?_
  refine zw_iload_n 80 f141_79 rfl rfl ?_
  refine zw_iconst 2 81 f141_80 rfl (by decide +kernel) ?_
  refine zw_ic_ne_t 88 f141_81 (by decide +kernel) (by decide +kernel) ?_
  refine zw_iload_n 89 f141_88 rfl rfl ?_
  refine zw_iastore 0 90 f141_89 rfl (zg_ne rfl (zg_ne rfl (zg_ne rfl (mb_55 x)))) (by decide +kernel) (by decide +kernel) (by decide +kernel) ?_
  refine zw_aload_n 91 f141_90 rfl rfl ?_
  refine zw_getfield 94 f141_91 rfl g141_19_12 (zg_ne rfl (zg_ne rfl (zg_ne rfl (zg_eq (mb_52 x))))) (zg_ne rfl rfl) ?_
  refine zw_iload_n 95 f141_94 rfl rfl ?_
  refine zw_iconst 0 96 f141_95 rfl (by decide +kernel) ?_
  refine zw_iastoreS 0 97 f141_96 rfl (zg_ne rfl (zg_ne rfl (zg_ne rfl (zg_ne rfl (mb_56 x))))) (by decide +kernel) (by decide +kernel) (by decide +kernel) rfl ?_
  refine zw_aload_n 98 f141_97 rfl rfl ?_
  refine zw_getfield 101 f141_98 rfl g141_22_12 (zg_ne rfl (zg_ne rfl (zg_ne rfl (zg_eq (mb_52 x))))) (zg_ne rfl rfl) ?_
  refine zw_iload_n 102 f141_101 rfl rfl ?_
  refine zw_iconst (-1) 103 f141_102 rfl (by decide +kernel) ?_
  refine zw_iastore 0 104 f141_103 rfl (zg_ne rfl (zg_ne rfl (zg_ne rfl (zg_ne rfl (mb_57 x))))) (by decide +kernel) (by decide +kernel) (by decide +kernel) ?_
  refine zw_aload_n 105 f141_104 rfl rfl ?_
  refine zw_getfield 108 f141_105 rfl g141_25_12 (zg_ne rfl (zg_ne rfl (zg_ne rfl (zg_ne rfl (zg_eq (mb_52 x)))))) (zg_ne rfl rfl) ?_
  refine zw_iload_n 109 f141_108 rfl rfl ?_
  refine zw_iconst (-1) 110 f141_109 rfl (by decide +kernel) ?_
  refine zw_iastore 0 111 f141_110 rfl (zg_ne rfl (zg_ne rfl (zg_ne rfl (zg_ne rfl (zg_ne rfl (mb_58 x)))))) (by decide +kernel) (by decide +kernel) (by decide +kernel) ?_
  refine zw_aload_n 112 f141_111 rfl rfl ?_
  refine zw_getfield 115 f141_112 rfl g141_28_12 (zg_ne rfl (zg_ne rfl (zg_ne rfl (zg_ne rfl (zg_ne rfl (zg_eq (mb_52 x))))))) (zg_ne rfl rfl) ?_
  refine zw_iload_n 116 f141_115 rfl rfl ?_
  refine zw_iconst (-1) 117 f141_116 rfl (by decide +kernel) ?_
  refine zw_iastore 0 118 f141_117 rfl (zg_ne rfl (zg_ne rfl (zg_ne rfl (zg_ne rfl (zg_ne rfl (zg_ne rfl (mb_59 x))))))) (by decide +kernel) (by decide +kernel) (by decide +kernel) ?_
  refine zw_aload_n 119 f141_118 rfl rfl ?_
  refine zw_iload_n 120 f141_119 rfl rfl ?_
  refine zw_virtual_i 123 0 0 [.ref 52, .int 0] [(0, .ref 52), (1, .int 0)] f141_120 rfl n141_212 k141_212_12 rfl (zg_ne rfl (zg_ne rfl (zg_ne rfl (zg_ne rfl (zg_ne rfl (zg_ne rfl (zg_eq (mb_52 x)))))))) (by decide +kernel) (Nat.le_of_ble_eq_true rfl) rfl rfl (by decide +kernel) (by decide +kernel) rfl (Nat.le_of_ble_eq_true rfl) rfl ?_
  refine zw_aload_n 1 f140_0 rfl rfl ?_
  refine zw_virtual_v 4 0 0 [.ref 52] [(0, .ref 52)] f140_1 rfl n140_202 k140_202_12 rfl (zg_ne rfl (zg_ne rfl (zg_ne rfl (zg_ne rfl (zg_ne rfl (zg_ne rfl (zg_eq (mb_52 x)))))))) (by decide +kernel) (Nat.le_of_ble_eq_true rfl) rfl rfl (by decide +kernel) (by decide +kernel) rfl (Nat.le_of_ble_eq_true rfl) rfl ?_
  refine zw_iconst 0 1 f138_0 rfl (by decide +kernel) ?_
  refine zw_istore_n [(1, .int 0), (0, .ref 52)] 2 f138_1 rfl (by decide +kernel) rfl ?_
  refine zw_iload_n 3 f138_2 rfl rfl ?_
  refine zw_aload_n 4 f138_3 rfl rfl ?_
  refine zw_getfield 7 f138_4 rfl g138_114_12 (zg_ne rfl (zg_ne rfl (zg_ne rfl (zg_ne rfl (zg_ne rfl (zg_ne rfl (zg_eq (mb_52 x)))))))) (zg_eq rfl) ?_
  refine zw_ic_ge_f 10 79 f138_7 (by decide +kernel) rfl (by decide +kernel) ?_
  refine zw_aload_n 11 f138_10 rfl rfl ?_
  refine zw_getfield 14 f138_11 rfl g138_7_12 (zg_ne rfl (zg_ne rfl (zg_ne rfl (zg_ne rfl (zg_ne rfl (zg_ne rfl (zg_eq (mb_52 x)))))))) (zg_ne rfl rfl) ?_
  refine zw_iload_n 15 f138_14 rfl rfl ?_
  refine zw_iaload 0 1 16 f138_15 rfl (zg_ne rfl (zg_ne rfl (zg_ne rfl (zg_ne rfl (zg_ne rfl (zg_eq (zg_ne rfl (mb_53 x)))))))) (by decide +kernel) (by decide +kernel) (by decide +kernel) rfl ?_
  refine zw_iconst 2 17 f138_16 rfl (by decide +kernel) ?_
  refine zw_ic_ne_t 73 f138_17 (by decide +kernel) (by decide +kernel) ?_
  refine zw_iinc 1 [(1, .int 1), (0, .ref 52)] 76 f138_73 rfl rfl (by decide +kernel) (by decide +kernel) rfl ?_
  refine zw_goto 2 f138_76 (by decide +kernel) ?_
  refine zw_iload_n 3 f138_2 rfl rfl ?_
  refine zw_aload_n 4 f138_3 rfl rfl ?_
  refine zw_getfield 7 f138_4 rfl g138_114_12 (zg_ne rfl (zg_ne rfl (zg_ne rfl (zg_ne rfl (zg_ne rfl (zg_ne rfl (zg_eq (mb_52 x)))))))) (zg_eq rfl) ?_
  refine zw_ic_ge_t 79 f138_7 (by decide +kernel) (by decide +kernel) ?_
  refine zw_iconst 0 80 f138_79 rfl (by decide +kernel) ?_
  refine zw_istore_n [(1, .int 0), (0, .ref 52)] 81 f138_80 rfl (by decide +kernel) rfl ?_
  refine zw_iload_n 82 f138_81 rfl rfl ?_
  refine zw_aload_n 83 f138_82 rfl rfl ?_
  refine zw_getfield 86 f138_83 rfl g138_114_12 (zg_ne rfl (zg_ne rfl (zg_ne rfl (zg_ne rfl (zg_ne rfl (zg_ne rfl (zg_eq (mb_52 x)))))))) (zg_eq rfl) ?_
  refine zw_ic_ge_f 89 195 f138_86 (by decide +kernel) rfl (by decide +kernel) ?_
  refine zw_aload_n 90 f138_89 rfl rfl ?_
  refine zw_getfield 93 f138_90 rfl g138_7_12 (zg_ne rfl (zg_ne rfl (zg_ne rfl (zg_ne rfl (zg_ne rfl (zg_ne rfl (zg_eq (mb_52 x)))))))) (zg_ne rfl rfl) ?_
  refine zw_iload_n 94 f138_93 rfl rfl ?_
  refine zw_iaload 0 1 95 f138_94 rfl (zg_ne rfl (zg_ne rfl (zg_ne rfl (zg_ne rfl (zg_ne rfl (zg_eq (zg_ne rfl (mb_53 x)))))))) (by decide +kernel) (by decide +kernel) (by decide +kernel) rfl ?_
  refine zw_iconst 1 96 f138_95 rfl (by decide +kernel) ?_
  refine zw_ic_ne_f 99 146 f138_96 (by decide +kernel) rfl (by decide +kernel) ?_
  refine zw_aload_n 100 f138_99 rfl rfl ?_
  refine zw_getfield 103 f138_100 rfl g138_52_12 (zg_ne rfl (zg_ne rfl (zg_ne rfl (zg_ne rfl (zg_ne rfl (zg_ne rfl (zg_eq (mb_52 x)))))))) (zg_ne rfl rfl) ?_
  refine zw_iload_n 104 f138_103 rfl rfl ?_
  refine zw_baload 0 0 105 f138_104 rfl (zg_ne rfl (zg_ne rfl (zg_ne rfl (zg_ne rfl (zg_ne rfl (zg_ne rfl (zg_ne rfl (mb_65 x)))))))) (by decide +kernel) (by decide +kernel) (by decide +kernel) rfl ?_
  refine zw_if_ne_f 108 146 f138_105 (by decide +kernel) rfl (by decide +kernel) ?_
  refine zw_aload_n 109 f138_108 rfl rfl ?_
  refine zw_getfield 112 f138_109 rfl g138_44_12 (zg_ne rfl (zg_ne rfl (zg_ne rfl (zg_ne rfl (zg_ne rfl (zg_ne rfl (zg_eq (mb_52 x)))))))) (zg_ne rfl rfl) ?_
  refine zw_iload_n 113 f138_112 rfl rfl ?_
  refine zw_laload 0 0 114 f138_113 rfl (zg_ne rfl (zg_ne rfl (zg_ne rfl (zg_ne rfl (zg_ne rfl (zg_ne rfl (zg_ne rfl (mb_63 x)))))))) (by decide +kernel) (by decide +kernel) (by decide +kernel) rfl ?_
  refine zw_aload_n 115 f138_114 rfl rfl ?_
  refine zw_getfield 118 f138_115 rfl g138_16_12 (zg_ne rfl (zg_ne rfl (zg_ne rfl (zg_ne rfl (zg_ne rfl (zg_ne rfl (zg_eq (mb_52 x)))))))) (zg_ne rfl rfl) ?_
  refine zw_iload_n 119 f138_118 rfl rfl ?_
  refine zw_iaload 0 b 120 f138_119 rfl (zg_ne rfl (zg_ne rfl (zg_ne rfl (zg_eq (zg_ne rfl (zg_ne rfl (zg_ne rfl (mb_55 x)))))))) (by decide +kernel) (by decide +kernel) (by decide +kernel) rfl ?_
  refine zw_i2l b.toInt64 121 f138_120 rfl rfl ?_
  refine zw_aload_n 122 f138_121 rfl rfl ?_
  refine zw_getfield 125 f138_122 rfl g138_40_12 (zg_ne rfl (zg_ne rfl (zg_ne rfl (zg_ne rfl (zg_ne rfl (zg_ne rfl (zg_eq (mb_52 x)))))))) (zg_ne rfl rfl) ?_
  refine zw_lmul b.toInt64 126 f138_125 rfl (Int64.mul_one _) ?_
  refine zw_lcmp (-1) 127 f138_126 rfl (zl_pos (zl_one h3)).1 ?_
  refine zw_if_lt_t 146 f138_127 (by decide +kernel) (by decide +kernel) ?_
  refine zw_aload_n 147 f138_146 rfl rfl ?_
  refine zw_getfield 150 f138_147 rfl g138_7_12 (zg_ne rfl (zg_ne rfl (zg_ne rfl (zg_ne rfl (zg_ne rfl (zg_ne rfl (zg_eq (mb_52 x)))))))) (zg_ne rfl rfl) ?_
  refine zw_iload_n 151 f138_150 rfl rfl ?_
  refine zw_iaload 0 1 152 f138_151 rfl (zg_ne rfl (zg_ne rfl (zg_ne rfl (zg_ne rfl (zg_ne rfl (zg_eq (zg_ne rfl (mb_53 x)))))))) (by decide +kernel) (by decide +kernel) (by decide +kernel) rfl ?_
  refine zw_iconst 1 153 f138_152 rfl (by decide +kernel) ?_
  refine zw_ic_ne_f 156 189 f138_153 (by decide +kernel) rfl (by decide +kernel) ?_
  refine zw_aload_n 157 f138_156 rfl rfl ?_
  refine zw_getfield 160 f138_157 rfl g138_52_12 (zg_ne rfl (zg_ne rfl (zg_ne rfl (zg_ne rfl (zg_ne rfl (zg_ne rfl (zg_eq (mb_52 x)))))))) (zg_ne rfl rfl) ?_
  refine zw_iload_n 161 f138_160 rfl rfl ?_
  refine zw_baload 0 0 162 f138_161 rfl (zg_ne rfl (zg_ne rfl (zg_ne rfl (zg_ne rfl (zg_ne rfl (zg_ne rfl (zg_ne rfl (mb_65 x)))))))) (by decide +kernel) (by decide +kernel) (by decide +kernel) rfl ?_
  refine zw_if_eq_t 189 f138_162 (by decide +kernel) (by decide +kernel) ?_
  refine zw_iinc 1 [(1, .int 1), (0, .ref 52)] 192 f138_189 rfl rfl (by decide +kernel) (by decide +kernel) rfl ?_
  refine zw_goto 81 f138_192 (by decide +kernel) ?_
  refine zw_iload_n 82 f138_81 rfl rfl ?_
  refine zw_aload_n 83 f138_82 rfl rfl ?_
  refine zw_getfield 86 f138_83 rfl g138_114_12 (zg_ne rfl (zg_ne rfl (zg_ne rfl (zg_ne rfl (zg_ne rfl (zg_ne rfl (zg_eq (mb_52 x)))))))) (zg_eq rfl) ?_
  refine zw_ic_ge_t 195 f138_86 (by decide +kernel) (by decide +kernel) ?_
  refine zw_iconst 0 196 f138_195 rfl (by decide +kernel) ?_
  refine zw_istore_n [(1, .int 0), (0, .ref 52)] 197 f138_196 rfl (by decide +kernel) rfl ?_
  refine zw_iload_n 198 f138_197 rfl rfl ?_
  refine zw_aload_n 199 f138_198 rfl rfl ?_
  refine zw_getfield 202 f138_199 rfl g138_114_12 (zg_ne rfl (zg_ne rfl (zg_ne rfl (zg_ne rfl (zg_ne rfl (zg_ne rfl (zg_eq (mb_52 x)))))))) (zg_eq rfl) ?_
  refine zw_ic_ge_f 205 234 f138_202 (by decide +kernel) rfl (by decide +kernel) ?_
  refine zw_aload_n 206 f138_205 rfl rfl ?_
  refine zw_iload_n 207 f138_206 rfl rfl ?_
  refine zw_virtual_i 210 0 0 [.ref 52, .int 0] [(0, .ref 52), (1, .int 0)] f138_207 rfl n138_158 k138_158_12 rfl (zg_ne rfl (zg_ne rfl (zg_ne rfl (zg_ne rfl (zg_ne rfl (zg_ne rfl (zg_eq (mb_52 x)))))))) (by decide +kernel) (Nat.le_of_ble_eq_true rfl) rfl rfl (by decide +kernel) (by decide +kernel) rfl (Nat.le_of_ble_eq_true rfl) rfl ?_
  refine zw_aload_n 1 f126_0 rfl rfl ?_
  refine zw_getfield 4 f126_1 rfl g126_7_12 (zg_ne rfl (zg_ne rfl (zg_ne rfl (zg_ne rfl (zg_ne rfl (zg_ne rfl (zg_eq (mb_52 x)))))))) (zg_ne rfl rfl) ?_
  refine zw_iload_n 5 f126_4 rfl rfl ?_
  refine zw_iaload 0 1 6 f126_5 rfl (zg_ne rfl (zg_ne rfl (zg_ne rfl (zg_ne rfl (zg_ne rfl (zg_eq (zg_ne rfl (mb_53 x)))))))) (by decide +kernel) (by decide +kernel) (by decide +kernel) rfl ?_
  refine zw_iconst 3 7 f126_6 rfl (by decide +kernel) ?_
  refine zw_ic_eq_f 10 20 f126_7 (by decide +kernel) rfl (by decide +kernel) ?_
  refine zw_aload_n 11 f126_10 rfl rfl ?_
  refine zw_getfield 14 f126_11 rfl g126_7_12 (zg_ne rfl (zg_ne rfl (zg_ne rfl (zg_ne rfl (zg_ne rfl (zg_ne rfl (zg_eq (mb_52 x)))))))) (zg_ne rfl rfl) ?_
  refine zw_iload_n 15 f126_14 rfl rfl ?_
  refine zw_iaload 0 1 16 f126_15 rfl (zg_ne rfl (zg_ne rfl (zg_ne rfl (zg_ne rfl (zg_ne rfl (zg_eq (zg_ne rfl (mb_53 x)))))))) (by decide +kernel) (by decide +kernel) (by decide +kernel) rfl ?_
  refine zw_iconst 4 17 f126_16 rfl (by decide +kernel) ?_
  refine zw_ic_ne_t 24 f126_17 (by decide +kernel) (by decide +kernel) ?_
  refine zw_iconst 0 25 f126_24 rfl (by decide +kernel) ?_
  refine zw_zreturn f126_25 r126 u126 (by decide +kernel) ⟨_, rfl, ?_⟩
  refine zw_if_eq_t 228 f138_210 (by decide +kernel) (by decide +kernel) ?_
  refine zw_iinc 1 [(1, .int 1), (0, .ref 52)] 231 f138_228 rfl rfl (by decide +kernel) (by decide +kernel) rfl ?_
  refine zw_goto 197 f138_231 (by decide +kernel) ?_
  refine zw_iload_n 198 f138_197 rfl rfl ?_
  refine zw_aload_n 199 f138_198 rfl rfl ?_
  refine zw_getfield 202 f138_199 rfl g138_114_12 (zg_ne rfl (zg_ne rfl (zg_ne rfl (zg_ne rfl (zg_ne rfl (zg_ne rfl (zg_eq (mb_52 x)))))))) (zg_eq rfl) ?_
  refine zw_ic_ge_t 234 f138_202 (by decide +kernel) (by decide +kernel) ?_
  refine zw_aload_n 235 f138_234 rfl rfl ?_
  refine zw_virtual_v 238 0 0 [.ref 52] [(0, .ref 52)] f138_235 rfl n138_199 k138_199_12 rfl (zg_ne rfl (zg_ne rfl (zg_ne rfl (zg_ne rfl (zg_ne rfl (zg_ne rfl (zg_eq (mb_52 x)))))))) (by decide +kernel) (Nat.le_of_ble_eq_true rfl) rfl rfl (by decide +kernel) (by decide +kernel) rfl (Nat.le_of_ble_eq_true rfl) rfl ?_
  refine zw_aload_n 1 f135_0 rfl rfl ?_
  refine zw_aload_n 2 f135_1 rfl rfl ?_
  refine zw_getfield 5 f135_2 rfl g135_172_12 (zg_ne rfl (zg_ne rfl (zg_ne rfl (zg_ne rfl (zg_ne rfl (zg_ne rfl (zg_eq (mb_52 x)))))))) (zg_ne rfl rfl) ?_
  refine zw_aload_n 6 f135_5 rfl rfl ?_
  refine zw_getfield 9 f135_6 rfl g135_175_12 (zg_ne rfl (zg_ne rfl (zg_ne rfl (zg_ne rfl (zg_ne rfl (zg_ne rfl (zg_eq (mb_52 x)))))))) (zg_ne rfl rfl) ?_
  refine zw_aload_n 10 f135_9 rfl rfl ?_
  refine zw_getfield 13 f135_10 rfl g135_178_12 (zg_ne rfl (zg_ne rfl (zg_ne rfl (zg_ne rfl (zg_ne rfl (zg_ne rfl (zg_eq (mb_52 x)))))))) (zg_ne rfl rfl) ?_
  refine zw_aload_n 14 f135_13 rfl rfl ?_
  refine zw_getfield 17 f135_14 rfl g135_40_12 (zg_ne rfl (zg_ne rfl (zg_ne rfl (zg_ne rfl (zg_ne rfl (zg_ne rfl (zg_eq (mb_52 x)))))))) (zg_ne rfl rfl) ?_
  refine zw_static_l 20 0 0 [.long 0, .long 1] [.long 0, .long 0, .ref 52] [(0, .long 0), (2, .long 1)] f135_17 rfl k135_164_99 rfl (by decide +kernel) (Nat.le_of_ble_eq_true rfl) (Nat.le_of_ble_eq_true rfl) rfl rfl (by decide +kernel) (by decide +kernel) rfl (Nat.le_of_ble_eq_true rfl) rfl ?_
  refine zw_lload_n 1 f125_0 rfl rfl ?_
  refine zw_lconst 0 2 f125_1 rfl (by decide +kernel) ?_
  refine zw_lcmp 0 3 f125_2 rfl (by decide +kernel) ?_
  refine zw_if_ge_t 11 f125_3 (by decide +kernel) (by decide +kernel) ?_
  refine zw_lload_n 12 f125_11 rfl rfl ?_
  refine zw_lstore [(4, .long 0), (0, .long 0), (2, .long 1)] 14 f125_12 rfl (by decide +kernel) rfl ?_
  refine zw_lload_n 15 f125_14 rfl rfl ?_
  refine zw_lstore [(6, .long 1), (4, .long 0), (0, .long 0), (2, .long 1)] 17 f125_15 rfl (by decide +kernel) rfl ?_
  refine zw_lload 19 f125_17 rfl rfl ?_
  refine zw_lconst 0 20 f125_19 rfl (by decide +kernel) ?_
  refine zw_lcmp 1 21 f125_20 rfl (by decide +kernel) ?_
  refine zw_if_eq_f 24 42 f125_21 (by decide +kernel) rfl (by decide +kernel) ?_
  refine zw_lload 26 f125_24 rfl rfl ?_
  refine zw_lload 28 f125_26 rfl rfl ?_
  refine zw_lrem 0 29 f125_28 rfl (by decide +kernel) (by decide +kernel) ?_
  refine zw_lstore [(8, .long 0), (6, .long 1), (4, .long 0), (0, .long 0), (2, .long 1)] 31 f125_29 rfl (by decide +kernel) rfl ?_
  refine zw_lload 33 f125_31 rfl rfl ?_
  refine zw_lstore [(4, .long 1), (8, .long 0), (6, .long 1), (0, .long 0), (2, .long 1)] 35 f125_33 rfl (by decide +kernel) rfl ?_
  refine zw_lload 37 f125_35 rfl rfl ?_
  refine zw_lstore [(6, .long 0), (4, .long 1), (8, .long 0), (0, .long 0), (2, .long 1)] 39 f125_37 rfl (by decide +kernel) rfl ?_
  refine zw_goto 17 f125_39 (by decide +kernel) ?_
  refine zw_lload 19 f125_17 rfl rfl ?_
  refine zw_lconst 0 20 f125_19 rfl (by decide +kernel) ?_
  refine zw_lcmp 0 21 f125_20 rfl (by decide +kernel) ?_
  refine zw_if_eq_t 42 f125_21 (by decide +kernel) (by decide +kernel) ?_
  refine zw_lload 44 f125_42 rfl rfl ?_
  refine zw_lreturn f125_44 r125 u125 ⟨_, rfl, ?_⟩
  refine zw_static_l 23 0 0 [.long 0, .long 1] [.long 0, .ref 52] [(0, .long 0), (2, .long 1)] f135_20 rfl k135_164_99 rfl (by decide +kernel) (Nat.le_of_ble_eq_true rfl) (Nat.le_of_ble_eq_true rfl) rfl rfl (by decide +kernel) (by decide +kernel) rfl (Nat.le_of_ble_eq_true rfl) rfl ?_
  refine zw_lload_n 1 f125_0 rfl rfl ?_
  refine zw_lconst 0 2 f125_1 rfl (by decide +kernel) ?_
  refine zw_lcmp 0 3 f125_2 rfl (by decide +kernel) ?_
  refine zw_if_ge_t 11 f125_3 (by decide +kernel) (by decide +kernel) ?_
  refine zw_lload_n 12 f125_11 rfl rfl ?_
  refine zw_lstore [(4, .long 0), (0, .long 0), (2, .long 1)] 14 f125_12 rfl (by decide +kernel) rfl ?_
  refine zw_lload_n 15 f125_14 rfl rfl ?_
  refine zw_lstore [(6, .long 1), (4, .long 0), (0, .long 0), (2, .long 1)] 17 f125_15 rfl (by decide +kernel) rfl ?_
  refine zw_lload 19 f125_17 rfl rfl ?_
  refine zw_lconst 0 20 f125_19 rfl (by decide +kernel) ?_
  refine zw_lcmp 1 21 f125_20 rfl (by decide +kernel) ?_
  refine zw_if_eq_f 24 42 f125_21 (by decide +kernel) rfl (by decide +kernel) ?_
  refine zw_lload 26 f125_24 rfl rfl ?_
  refine zw_lload 28 f125_26 rfl rfl ?_
  refine zw_lrem 0 29 f125_28 rfl (by decide +kernel) (by decide +kernel) ?_
  refine zw_lstore [(8, .long 0), (6, .long 1), (4, .long 0), (0, .long 0), (2, .long 1)] 31 f125_29 rfl (by decide +kernel) rfl ?_
  refine zw_lload 33 f125_31 rfl rfl ?_
  refine zw_lstore [(4, .long 1), (8, .long 0), (6, .long 1), (0, .long 0), (2, .long 1)] 35 f125_33 rfl (by decide +kernel) rfl ?_
  refine zw_lload 37 f125_35 rfl rfl ?_
  refine zw_lstore [(6, .long 0), (4, .long 1), (8, .long 0), (0, .long 0), (2, .long 1)] 39 f125_37 rfl (by decide +kernel) rfl ?_
  refine zw_goto 17 f125_39 (by decide +kernel) ?_
  refine zw_lload 19 f125_17 rfl rfl ?_
  refine zw_lconst 0 20 f125_19 rfl (by decide +kernel) ?_
  refine zw_lcmp 0 21 f125_20 rfl (by decide +kernel) ?_
  refine zw_if_eq_t 42 f125_21 (by decide +kernel) (by decide +kernel) ?_
  refine zw_lload 44 f125_42 rfl rfl ?_
  refine zw_lreturn f125_44 r125 u125 ⟨_, rfl, ?_⟩
  refine zw_static_l 26 0 0 [.long 0, .long 1] [.ref 52] [(0, .long 0), (2, .long 1)] f135_23 rfl k135_164_99 rfl (by decide +kernel) (Nat.le_of_ble_eq_true rfl) (Nat.le_of_ble_eq_true rfl) rfl rfl (by decide +kernel) (by decide +kernel) rfl (Nat.le_of_ble_eq_true rfl) rfl ?_
  refine zw_lload_n 1 f125_0 rfl rfl ?_
  refine zw_lconst 0 2 f125_1 rfl (by decide +kernel) ?_
  refine zw_lcmp 0 3 f125_2 rfl (by decide +kernel) ?_
  refine zw_if_ge_t 11 f125_3 (by decide +kernel) (by decide +kernel) ?_
  refine zw_lload_n 12 f125_11 rfl rfl ?_
  refine zw_lstore [(4, .long 0), (0, .long 0), (2, .long 1)] 14 f125_12 rfl (by decide +kernel) rfl ?_
  refine zw_lload_n 15 f125_14 rfl rfl ?_
  refine zw_lstore [(6, .long 1), (4, .long 0), (0, .long 0), (2, .long 1)] 17 f125_15 rfl (by decide +kernel) rfl ?_
  refine zw_lload 19 f125_17 rfl rfl ?_
  refine zw_lconst 0 20 f125_19 rfl (by decide +kernel) ?_
  refine zw_lcmp 1 21 f125_20 rfl (by decide +kernel) ?_
  refine zw_if_eq_f 24 42 f125_21 (by decide +kernel) rfl (by decide +kernel) ?_
  refine zw_lload 26 f125_24 rfl rfl ?_
  refine zw_lload 28 f125_26 rfl rfl ?_
  refine zw_lrem 0 29 f125_28 rfl (by decide +kernel) (by decide +kernel) ?_
  refine zw_lstore [(8, .long 0), (6, .long 1), (4, .long 0), (0, .long 0), (2, .long 1)] 31 f125_29 rfl (by decide +kernel) rfl ?_
  refine zw_lload 33 f125_31 rfl rfl ?_
  refine zw_lstore [(4, .long 1), (8, .long 0), (6, .long 1), (0, .long 0), (2, .long 1)] 35 f125_33 rfl (by decide +kernel) rfl ?_
  refine zw_lload 37 f125_35 rfl rfl ?_
  refine zw_lstore [(6, .long 0), (4, .long 1), (8, .long 0), (0, .long 0), (2, .long 1)] 39 f125_37 rfl (by decide +kernel) rfl ?_
  refine zw_goto 17 f125_39 (by decide +kernel) ?_
  refine zw_lload 19 f125_17 rfl rfl ?_
  refine zw_lconst 0 20 f125_19 rfl (by decide +kernel) ?_
  refine zw_lcmp 0 21 f125_20 rfl (by decide +kernel) ?_
  refine zw_if_eq_t 42 f125_21 (by decide +kernel) (by decide +kernel) ?_
  refine zw_lload 44 f125_42 rfl rfl ?_
  refine zw_lreturn f125_44 r125 u125 ⟨_, rfl, ?_⟩
  refine zw_putfield 29 f135_26 rfl g135_161_12 (zg_ne rfl (zg_ne rfl (zg_ne rfl (zg_ne rfl (zg_ne rfl (zg_ne rfl (zg_eq (mb_52 x)))))))) rfl (zg_lt (zg_ne rfl rfl)) (by decide +kernel) ?_
  refine zw_iconst 0 30 f135_29 rfl (by decide +kernel) ?_
  refine zw_istore_n [(1, .int 0), (0, .ref 52)] 31 f135_30 rfl (by decide +kernel) rfl ?_
  refine zw_iload_n 32 f135_31 rfl rfl ?_
  refine zw_bipush 8 34 f135_32 rfl (by decide +kernel) ?_
  refine zw_ic_ge_f 37 60 f135_34 (by decide +kernel) rfl (by decide +kernel) ?_
  refine zw_aload_n 38 f135_37 rfl rfl ?_
  refine zw_aload_n 39 f135_38 rfl rfl ?_
  refine zw_getfield 42 f135_39 rfl g135_44_12 (zg_eq (zg_ne rfl (zg_ne rfl (zg_ne rfl (zg_ne rfl (zg_ne rfl (zg_ne rfl (zg_eq (mb_52 x))))))))) (zg_ne rfl (zg_ne rfl rfl)) ?_
  refine zw_iload_n 43 f135_42 rfl rfl ?_
  refine zw_laload 0 0 44 f135_43 rfl (zg_ne rfl (zg_ne rfl (zg_ne rfl (zg_ne rfl (zg_ne rfl (zg_ne rfl (zg_ne rfl (zg_ne rfl (mb_63 x))))))))) (by decide +kernel) (by decide +kernel) (by decide +kernel) rfl ?_
  refine zw_aload_n 45 f135_44 rfl rfl ?_
  refine zw_getfield 48 f135_45 rfl g135_161_12 (zg_eq (zg_ne rfl (zg_ne rfl (zg_ne rfl (zg_ne rfl (zg_ne rfl (zg_ne rfl (zg_eq (mb_52 x))))))))) (zg_eq (zg_ne rfl rfl)) ?_
  refine zw_static_l 51 0 0 [.long 0, .long 1] [.ref 52] [(0, .long 0), (2, .long 1)] f135_48 rfl k135_164_99 rfl (by decide +kernel) (Nat.le_of_ble_eq_true rfl) (Nat.le_of_ble_eq_true rfl) rfl rfl (by decide +kernel) (by decide +kernel) rfl (Nat.le_of_ble_eq_true rfl) rfl ?_
  refine zw_lload_n 1 f125_0 rfl rfl ?_
  refine zw_lconst 0 2 f125_1 rfl (by decide +kernel) ?_
  refine zw_lcmp 0 3 f125_2 rfl (by decide +kernel) ?_
  refine zw_if_ge_t 11 f125_3 (by decide +kernel) (by decide +kernel) ?_
  refine zw_lload_n 12 f125_11 rfl rfl ?_
  refine zw_lstore [(4, .long 0), (0, .long 0), (2, .long 1)] 14 f125_12 rfl (by decide +kernel) rfl ?_
  refine zw_lload_n 15 f125_14 rfl rfl ?_
  refine zw_lstore [(6, .long 1), (4, .long 0), (0, .long 0), (2, .long 1)] 17 f125_15 rfl (by decide +kernel) rfl ?_
  refine zw_lload 19 f125_17 rfl rfl ?_
  refine zw_lconst 0 20 f125_19 rfl (by decide +kernel) ?_
  refine zw_lcmp 1 21 f125_20 rfl (by decide +kernel) ?_
  refine zw_if_eq_f 24 42 f125_21 (by decide +kernel) rfl (by decide +kernel) ?_
  refine zw_lload 26 f125_24 rfl rfl ?_
  refine zw_lload 28 f125_26 rfl rfl ?_
  refine zw_lrem 0 29 f125_28 rfl (by decide +kernel) (by decide +kernel) ?_
  refine zw_lstore [(8, .long 0), (6, .long 1), (4, .long 0), (0, .long 0), (2, .long 1)] 31 f125_29 rfl (by decide +kernel) rfl ?_
  refine zw_lload 33 f125_31 rfl rfl ?_
  refine zw_lstore [(4, .long 1), (8, .long 0), (6, .long 1), (0, .long 0), (2, .long 1)] 35 f125_33 rfl (by decide +kernel) rfl ?_
  refine zw_lload 37 f125_35 rfl rfl ?_
  refine zw_lstore [(6, .long 0), (4, .long 1), (8, .long 0), (0, .long 0), (2, .long 1)] 39 f125_37 rfl (by decide +kernel) rfl ?_
  refine zw_goto 17 f125_39 (by decide +kernel) ?_
  refine zw_lload 19 f125_17 rfl rfl ?_
  refine zw_lconst 0 20 f125_19 rfl (by decide +kernel) ?_
  refine zw_lcmp 0 21 f125_20 rfl (by decide +kernel) ?_
  refine zw_if_eq_t 42 f125_21 (by decide +kernel) (by decide +kernel) ?_
  refine zw_lload 44 f125_42 rfl rfl ?_
  refine zw_lreturn f125_44 r125 u125 ⟨_, rfl, ?_⟩
  refine zw_putfieldS 54 f135_51 rfl g135_161_12 (zg_eq (zg_ne rfl (zg_ne rfl (zg_ne rfl (zg_ne rfl (zg_ne rfl (zg_ne rfl (zg_eq (mb_52 x))))))))) rfl (zg_eq (zg_ne rfl rfl)) (by decide +kernel) ?_
  refine zw_iinc 1 [(1, .int 1), (0, .ref 52)] 57 f135_54 rfl rfl (by decide +kernel) (by decide +kernel) rfl ?_
  refine zw_goto 31 f135_57 (by decide +kernel) ?_
  refine zw_iload_n 32 f135_31 rfl rfl ?_
  refine zw_bipush 8 34 f135_32 rfl (by decide +kernel) ?_
  refine zw_ic_ge_f 37 60 f135_34 (by decide +kernel) rfl (by decide +kernel) ?_
  refine zw_aload_n 38 f135_37 rfl rfl ?_
  refine zw_aload_n 39 f135_38 rfl rfl ?_
  refine zw_getfield 42 f135_39 rfl g135_44_12 (zg_eq (zg_ne rfl (zg_ne rfl (zg_ne rfl (zg_ne rfl (zg_ne rfl (zg_ne rfl (zg_eq (mb_52 x))))))))) (zg_ne rfl (zg_ne rfl rfl)) ?_
  refine zw_iload_n 43 f135_42 rfl rfl ?_
  refine zw_laload 1 0 44 f135_43 rfl (zg_ne rfl (zg_ne rfl (zg_ne rfl (zg_ne rfl (zg_ne rfl (zg_ne rfl (zg_ne rfl (zg_ne rfl (mb_63 x))))))))) (by decide +kernel) (by decide +kernel) (by decide +kernel) rfl ?_
  refine zw_aload_n 45 f135_44 rfl rfl ?_
  refine zw_getfield 48 f135_45 rfl g135_161_12 (zg_eq (zg_ne rfl (zg_ne rfl (zg_ne rfl (zg_ne rfl (zg_ne rfl (zg_ne rfl (zg_eq (mb_52 x))))))))) (zg_eq (zg_ne rfl rfl)) ?_
  refine zw_static_l 51 0 0 [.long 0, .long 1] [.ref 52] [(0, .long 0), (2, .long 1)] f135_48 rfl k135_164_99 rfl (by decide +kernel) (Nat.le_of_ble_eq_true rfl) (Nat.le_of_ble_eq_true rfl) rfl rfl (by decide +kernel) (by decide +kernel) rfl (Nat.le_of_ble_eq_true rfl) rfl ?_
  refine zw_lload_n 1 f125_0 rfl rfl ?_
  refine zw_lconst 0 2 f125_1 rfl (by decide +kernel) ?_
  refine zw_lcmp 0 3 f125_2 rfl (by decide +kernel) ?_
  refine zw_if_ge_t 11 f125_3 (by decide +kernel) (by decide +kernel) ?_
  refine zw_lload_n 12 f125_11 rfl rfl ?_
  refine zw_lstore [(4, .long 0), (0, .long 0), (2, .long 1)] 14 f125_12 rfl (by decide +kernel) rfl ?_
  refine zw_lload_n 15 f125_14 rfl rfl ?_
  refine zw_lstore [(6, .long 1), (4, .long 0), (0, .long 0), (2, .long 1)] 17 f125_15 rfl (by decide +kernel) rfl ?_
  refine zw_lload 19 f125_17 rfl rfl ?_
  refine zw_lconst 0 20 f125_19 rfl (by decide +kernel) ?_
  refine zw_lcmp 1 21 f125_20 rfl (by decide +kernel) ?_
  refine zw_if_eq_f 24 42 f125_21 (by decide +kernel) rfl (by decide +kernel) ?_
  refine zw_lload 26 f125_24 rfl rfl ?_
  refine zw_lload 28 f125_26 rfl rfl ?_
  refine zw_lrem 0 29 f125_28 rfl (by decide +kernel) (by decide +kernel) ?_
  refine zw_lstore [(8, .long 0), (6, .long 1), (4, .long 0), (0, .long 0), (2, .long 1)] 31 f125_29 rfl (by decide +kernel) rfl ?_
  refine zw_lload 33 f125_31 rfl rfl ?_
  refine zw_lstore [(4, .long 1), (8, .long 0), (6, .long 1), (0, .long 0), (2, .long 1)] 35 f125_33 rfl (by decide +kernel) rfl ?_
  refine zw_lload 37 f125_35 rfl rfl ?_
  refine zw_lstore [(6, .long 0), (4, .long 1), (8, .long 0), (0, .long 0), (2, .long 1)] 39 f125_37 rfl (by decide +kernel) rfl ?_
  refine zw_goto 17 f125_39 (by decide +kernel) ?_
  refine zw_lload 19 f125_17 rfl rfl ?_
  refine zw_lconst 0 20 f125_19 rfl (by decide +kernel) ?_
  refine zw_lcmp 0 21 f125_20 rfl (by decide +kernel) ?_
  refine zw_if_eq_t 42 f125_21 (by decide +kernel) (by decide +kernel) ?_
  refine zw_lload 44 f125_42 rfl rfl ?_
  refine zw_lreturn f125_44 r125 u125 ⟨_, rfl, ?_⟩
  refine zw_putfieldS 54 f135_51 rfl g135_161_12 (zg_eq (zg_ne rfl (zg_ne rfl (zg_ne rfl (zg_ne rfl (zg_ne rfl (zg_ne rfl (zg_eq (mb_52 x))))))))) rfl (zg_eq (zg_ne rfl rfl)) (by decide +kernel) ?_
  refine zw_iinc 2 [(1, .int 2), (0, .ref 52)] 57 f135_54 rfl rfl (by decide +kernel) (by decide +kernel) rfl ?_
  refine zw_goto 31 f135_57 (by decide +kernel) ?_
  refine zw_iload_n 32 f135_31 rfl rfl ?_
  refine zw_bipush 8 34 f135_32 rfl (by decide +kernel) ?_
  refine zw_ic_ge_f 37 60 f135_34 (by decide +kernel) rfl (by decide +kernel) ?_
  refine zw_aload_n 38 f135_37 rfl rfl ?_
  refine zw_aload_n 39 f135_38 rfl rfl ?_
  refine zw_getfield 42 f135_39 rfl g135_44_12 (zg_eq (zg_ne rfl (zg_ne rfl (zg_ne rfl (zg_ne rfl (zg_ne rfl (zg_ne rfl (zg_eq (mb_52 x))))))))) (zg_ne rfl (zg_ne rfl rfl)) ?_
  refine zw_iload_n 43 f135_42 rfl rfl ?_
  refine zw_laload 2 0 44 f135_43 rfl (zg_ne rfl (zg_ne rfl (zg_ne rfl (zg_ne rfl (zg_ne rfl (zg_ne rfl (zg_ne rfl (zg_ne rfl (mb_63 x))))))))) (by decide +kernel) (by decide +kernel) (by decide +kernel) rfl ?_
  refine zw_aload_n 45 f135_44 rfl rfl ?_
  refine zw_getfield 48 f135_45 rfl g135_161_12 (zg_eq (zg_ne rfl (zg_ne rfl (zg_ne rfl (zg_ne rfl (zg_ne rfl (zg_ne rfl (zg_eq (mb_52 x))))))))) (zg_eq (zg_ne rfl rfl)) ?_
  refine zw_static_l 51 0 0 [.long 0, .long 1] [.ref 52] [(0, .long 0), (2, .long 1)] f135_48 rfl k135_164_99 rfl (by decide +kernel) (Nat.le_of_ble_eq_true rfl) (Nat.le_of_ble_eq_true rfl) rfl rfl (by decide +kernel) (by decide +kernel) rfl (Nat.le_of_ble_eq_true rfl) rfl ?_
  refine zw_lload_n 1 f125_0 rfl rfl ?_
  refine zw_lconst 0 2 f125_1 rfl (by decide +kernel) ?_
  refine zw_lcmp 0 3 f125_2 rfl (by decide +kernel) ?_
  refine zw_if_ge_t 11 f125_3 (by decide +kernel) (by decide +kernel) ?_
  refine zw_lload_n 12 f125_11 rfl rfl ?_
  refine zw_lstore [(4, .long 0), (0, .long 0), (2, .long 1)] 14 f125_12 rfl (by decide +kernel) rfl ?_
  refine zw_lload_n 15 f125_14 rfl rfl ?_
  refine zw_lstore [(6, .long 1), (4, .long 0), (0, .long 0), (2, .long 1)] 17 f125_15 rfl (by decide +kernel) rfl ?_
  refine zw_lload 19 f125_17 rfl rfl ?_
  refine zw_lconst 0 20 f125_19 rfl (by decide +kernel) ?_
  refine zw_lcmp 1 21 f125_20 rfl (by decide +kernel) ?_
  refine zw_if_eq_f 24 42 f125_21 (by decide +kernel) rfl (by decide +kernel) ?_
  refine zw_lload 26 f125_24 rfl rfl ?_
  refine zw_lload 28 f125_26 rfl rfl ?_
  refine zw_lrem 0 29 f125_28 rfl (by decide +kernel) (by decide +kernel) ?_
  refine zw_lstore [(8, .long 0), (6, .long 1), (4, .long 0), (0, .long 0), (2, .long 1)] 31 f125_29 rfl (by decide +kernel) rfl ?_
  refine zw_lload 33 f125_31 rfl rfl ?_
  refine zw_lstore [(4, .long 1), (8, .long 0), (6, .long 1), (0, .long 0), (2, .long 1)] 35 f125_33 rfl (by decide +kernel) rfl ?_
  refine zw_lload 37 f125_35 rfl rfl ?_
  refine zw_lstore [(6, .long 0), (4, .long 1), (8, .long 0), (0, .long 0), (2, .long 1)] 39 f125_37 rfl (by decide +kernel) rfl ?_
  refine zw_goto 17 f125_39 (by decide +kernel) ?_
  refine zw_lload 19 f125_17 rfl rfl ?_
  refine zw_lconst 0 20 f125_19 rfl (by decide +kernel) ?_
  refine zw_lcmp 0 21 f125_20 rfl (by decide +kernel) ?_
  refine zw_if_eq_t 42 f125_21 (by decide +kernel) (by decide +kernel) ?_
  refine zw_lload 44 f125_42 rfl rfl ?_
  refine zw_lreturn f125_44 r125 u125 ⟨_, rfl, ?_⟩
  refine zw_putfieldS 54 f135_51 rfl g135_161_12 (zg_eq (zg_ne rfl (zg_ne rfl (zg_ne rfl (zg_ne rfl (zg_ne rfl (zg_ne rfl (zg_eq (mb_52 x))))))))) rfl (zg_eq (zg_ne rfl rfl)) (by decide +kernel) ?_
  refine zw_iinc 3 [(1, .int 3), (0, .ref 52)] 57 f135_54 rfl rfl (by decide +kernel) (by decide +kernel) rfl ?_
  refine zw_goto 31 f135_57 (by decide +kernel) ?_
  refine zw_iload_n 32 f135_31 rfl rfl ?_
  refine zw_bipush 8 34 f135_32 rfl (by decide +kernel) ?_
  refine zw_ic_ge_f 37 60 f135_34 (by decide +kernel) rfl (by decide +kernel) ?_
  refine zw_aload_n 38 f135_37 rfl rfl ?_
  refine zw_aload_n 39 f135_38 rfl rfl ?_
  refine zw_getfield 42 f135_39 rfl g135_44_12 (zg_eq (zg_ne rfl (zg_ne rfl (zg_ne rfl (zg_ne rfl (zg_ne rfl (zg_ne rfl (zg_eq (mb_52 x))))))))) (zg_ne rfl (zg_ne rfl rfl)) ?_
  refine zw_iload_n 43 f135_42 rfl rfl ?_
  refine zw_laload 3 0 44 f135_43 rfl (zg_ne rfl (zg_ne rfl (zg_ne rfl (zg_ne rfl (zg_ne rfl (zg_ne rfl (zg_ne rfl (zg_ne rfl (mb_63 x))))))))) (by decide +kernel) (by decide +kernel) (by decide +kernel) rfl ?_
  refine zw_aload_n 45 f135_44 rfl rfl ?_
  refine zw_getfield 48 f135_45 rfl g135_161_12 (zg_eq (zg_ne rfl (zg_ne rfl (zg_ne rfl (zg_ne rfl (zg_ne rfl (zg_ne rfl (zg_eq (mb_52 x))))))))) (zg_eq (zg_ne rfl rfl)) ?_
  refine zw_static_l 51 0 0 [.long 0, .long 1] [.ref 52] [(0, .long 0), (2, .long 1)] f135_48 rfl k135_164_99 rfl (by decide +kernel) (Nat.le_of_ble_eq_true rfl) (Nat.le_of_ble_eq_true rfl) rfl rfl (by decide +kernel) (by decide +kernel) rfl (Nat.le_of_ble_eq_true rfl) rfl ?_
  refine zw_lload_n 1 f125_0 rfl rfl ?_
  refine zw_lconst 0 2 f125_1 rfl (by decide +kernel) ?_
  refine zw_lcmp 0 3 f125_2 rfl (by decide +kernel) ?_
  refine zw_if_ge_t 11 f125_3 (by decide +kernel) (by decide +kernel) ?_
  refine zw_lload_n 12 f125_11 rfl rfl ?_
  refine zw_lstore [(4, .long 0), (0, .long 0), (2, .long 1)] 14 f125_12 rfl (by decide +kernel) rfl ?_
  refine zw_lload_n 15 f125_14 rfl rfl ?_
  refine zw_lstore [(6, .long 1), (4, .long 0), (0, .long 0), (2, .long 1)] 17 f125_15 rfl (by decide +kernel) rfl ?_
  refine zw_lload 19 f125_17 rfl rfl ?_
  refine zw_lconst 0 20 f125_19 rfl (by decide +kernel) ?_
  refine zw_lcmp 1 21 f125_20 rfl (by decide +kernel) ?_
  refine zw_if_eq_f 24 42 f125_21 (by decide +kernel) rfl (by decide +kernel) ?_
  refine zw_lload 26 f125_24 rfl rfl ?_
  refine zw_lload 28 f125_26 rfl rfl ?_
  refine zw_lrem 0 29 f125_28 rfl (by decide +kernel) (by decide +kernel) ?_
  refine zw_lstore [(8, .long 0), (6, .long 1), (4, .long 0), (0, .long 0), (2, .long 1)] 31 f125_29 rfl (by decide +kernel) rfl ?_
  refine zw_lload 33 f125_31 rfl rfl ?_
  refine zw_lstore [(4, .long 1), (8, .long 0), (6, .long 1), (0, .long 0), (2, .long 1)] 35 f125_33 rfl (by decide +kernel) rfl ?_
  refine zw_lload 37 f125_35 rfl rfl ?_
  refine zw_lstore [(6, .long 0), (4, .long 1), (8, .long 0), (0, .long 0), (2, .long 1)] 39 f125_37 rfl (by decide +kernel) rfl ?_
  refine zw_goto 17 f125_39 (by decide +kernel) ?_
  refine zw_lload 19 f125_17 rfl rfl ?_
  refine zw_lconst 0 20 f125_19 rfl (by decide +kernel) ?_
  refine zw_lcmp 0 21 f125_20 rfl (by decide +kernel) ?_
  refine zw_if_eq_t 42 f125_21 (by decide +kernel) (by decide +kernel) ?_
  refine zw_lload 44 f125_42 rfl rfl ?_
  refine zw_lreturn f125_44 r125 u125 ⟨_, rfl, ?_⟩
  refine zw_putfieldS 54 f135_51 rfl g135_161_12 (zg_eq (zg_ne rfl (zg_ne rfl (zg_ne rfl (zg_ne rfl (zg_ne rfl (zg_ne rfl (zg_eq (mb_52 x))))))))) rfl (zg_eq (zg_ne rfl rfl)) (by decide +kernel) ?_
  refine zw_iinc 4 [(1, .int 4), (0, .ref 52)] 57 f135_54 rfl rfl (by decide +kernel) (by decide +kernel) rfl ?_
  refine zw_goto 31 f135_57 (by decide +kernel) ?_
  refine zw_iload_n 32 f135_31 rfl rfl ?_
  refine zw_bipush 8 34 f135_32 rfl (by decide +kernel) ?_
  refine zw_ic_ge_f 37 60 f135_34 (by decide +kernel) rfl (by decide +kernel) ?_
  refine zw_aload_n 38 f135_37 rfl rfl ?_
  refine zw_aload_n 39 f135_38 rfl rfl ?_
  refine zw_getfield 42 f135_39 rfl g135_44_12 (zg_eq (zg_ne rfl (zg_ne rfl (zg_ne rfl (zg_ne rfl (zg_ne rfl (zg_ne rfl (zg_eq (mb_52 x))))))))) (zg_ne rfl (zg_ne rfl rfl)) ?_
  refine zw_iload_n 43 f135_42 rfl rfl ?_
  refine zw_laload 4 0 44 f135_43 rfl (zg_ne rfl (zg_ne rfl (zg_ne rfl (zg_ne rfl (zg_ne rfl (zg_ne rfl (zg_ne rfl (zg_ne rfl (mb_63 x))))))))) (by decide +kernel) (by decide +kernel) (by decide +kernel) rfl ?_
  refine zw_aload_n 45 f135_44 rfl rfl ?_
  refine zw_getfield 48 f135_45 rfl g135_161_12 (zg_eq (zg_ne rfl (zg_ne rfl (zg_ne rfl (zg_ne rfl (zg_ne rfl (zg_ne rfl (zg_eq (mb_52 x))))))))) (zg_eq (zg_ne rfl rfl)) ?_
  refine zw_static_l 51 0 0 [.long 0, .long 1] [.ref 52] [(0, .long 0), (2, .long 1)] f135_48 rfl k135_164_99 rfl (by decide +kernel) (Nat.le_of_ble_eq_true rfl) (Nat.le_of_ble_eq_true rfl) rfl rfl (by decide +kernel) (by decide +kernel) rfl (Nat.le_of_ble_eq_true rfl) rfl ?_
  refine zw_lload_n 1 f125_0 rfl rfl ?_
  refine zw_lconst 0 2 f125_1 rfl (by decide +kernel) ?_
  refine zw_lcmp 0 3 f125_2 rfl (by decide +kernel) ?_
  refine zw_if_ge_t 11 f125_3 (by decide +kernel) (by decide +kernel) ?_
  refine zw_lload_n 12 f125_11 rfl rfl ?_
  refine zw_lstore [(4, .long 0), (0, .long 0), (2, .long 1)] 14 f125_12 rfl (by decide +kernel) rfl ?_
  refine zw_lload_n 15 f125_14 rfl rfl ?_
  refine zw_lstore [(6, .long 1), (4, .long 0), (0, .long 0), (2, .long 1)] 17 f125_15 rfl (by decide +kernel) rfl ?_
  refine zw_lload 19 f125_17 rfl rfl ?_
  refine zw_lconst 0 20 f125_19 rfl (by decide +kernel) ?_
  refine zw_lcmp 1 21 f125_20 rfl (by decide +kernel) ?_
  refine zw_if_eq_f 24 42 f125_21 (by decide +kernel) rfl (by decide +kernel) ?_
  refine zw_lload 26 f125_24 rfl rfl ?_
  refine zw_lload 28 f125_26 rfl rfl ?_
  refine zw_lrem 0 29 f125_28 rfl (by decide +kernel) (by decide +kernel) ?_
  refine zw_lstore [(8, .long 0), (6, .long 1), (4, .long 0), (0, .long 0), (2, .long 1)] 31 f125_29 rfl (by decide +kernel) rfl ?_
  refine zw_lload 33 f125_31 rfl rfl ?_
  refine zw_lstore [(4, .long 1), (8, .long 0), (6, .long 1), (0, .long 0), (2, .long 1)] 35 f125_33 rfl (by decide +kernel) rfl ?_
  refine zw_lload 37 f125_35 rfl rfl ?_
  refine zw_lstore [(6, .long 0), (4, .long 1), (8, .long 0), (0, .long 0), (2, .long 1)] 39 f125_37 rfl (by decide +kernel) rfl ?_
  refine zw_goto 17 f125_39 (by decide +kernel) ?_
  refine zw_lload 19 f125_17 rfl rfl ?_
  refine zw_lconst 0 20 f125_19 rfl (by decide +kernel) ?_
  refine zw_lcmp 0 21 f125_20 rfl (by decide +kernel) ?_
  refine zw_if_eq_t 42 f125_21 (by decide +kernel) (by decide +kernel) ?_
  refine zw_lload 44 f125_42 rfl rfl ?_
  refine zw_lreturn f125_44 r125 u125 ⟨_, rfl, ?_⟩
  refine zw_putfieldS 54 f135_51 rfl g135_161_12 (zg_eq (zg_ne rfl (zg_ne rfl (zg_ne rfl (zg_ne rfl (zg_ne rfl (zg_ne rfl (zg_eq (mb_52 x))))))))) rfl (zg_eq (zg_ne rfl rfl)) (by decide +kernel) ?_
  refine zw_iinc 5 [(1, .int 5), (0, .ref 52)] 57 f135_54 rfl rfl (by decide +kernel) (by decide +kernel) rfl ?_
  refine zw_goto 31 f135_57 (by decide +kernel) ?_
  refine zw_iload_n 32 f135_31 rfl rfl ?_
  refine zw_bipush 8 34 f135_32 rfl (by decide +kernel) ?_
  refine zw_ic_ge_f 37 60 f135_34 (by decide +kernel) rfl (by decide +kernel) ?_
  refine zw_aload_n 38 f135_37 rfl rfl ?_
  refine zw_aload_n 39 f135_38 rfl rfl ?_
  refine zw_getfield 42 f135_39 rfl g135_44_12 (zg_eq (zg_ne rfl (zg_ne rfl (zg_ne rfl (zg_ne rfl (zg_ne rfl (zg_ne rfl (zg_eq (mb_52 x))))))))) (zg_ne rfl (zg_ne rfl rfl)) ?_
  refine zw_iload_n 43 f135_42 rfl rfl ?_
  refine zw_laload 5 0 44 f135_43 rfl (zg_ne rfl (zg_ne rfl (zg_ne rfl (zg_ne rfl (zg_ne rfl (zg_ne rfl (zg_ne rfl (zg_ne rfl (mb_63 x))))))))) (by decide +kernel) (by decide +kernel) (by decide +kernel) rfl ?_
  refine zw_aload_n 45 f135_44 rfl rfl ?_
  refine zw_getfield 48 f135_45 rfl g135_161_12 (zg_eq (zg_ne rfl (zg_ne rfl (zg_ne rfl (zg_ne rfl (zg_ne rfl (zg_ne rfl (zg_eq (mb_52 x))))))))) (zg_eq (zg_ne rfl rfl)) ?_
  refine zw_static_l 51 0 0 [.long 0, .long 1] [.ref 52] [(0, .long 0), (2, .long 1)] f135_48 rfl k135_164_99 rfl (by decide +kernel) (Nat.le_of_ble_eq_true rfl) (Nat.le_of_ble_eq_true rfl) rfl rfl (by decide +kernel) (by decide +kernel) rfl (Nat.le_of_ble_eq_true rfl) rfl ?_
  refine zw_lload_n 1 f125_0 rfl rfl ?_
  refine zw_lconst 0 2 f125_1 rfl (by decide +kernel) ?_
  refine zw_lcmp 0 3 f125_2 rfl (by decide +kernel) ?_
  refine zw_if_ge_t 11 f125_3 (by decide +kernel) (by decide +kernel) ?_
  refine zw_lload_n 12 f125_11 rfl rfl ?_
  refine zw_lstore [(4, .long 0), (0, .long 0), (2, .long 1)] 14 f125_12 rfl (by decide +kernel) rfl ?_
  refine zw_lload_n 15 f125_14 rfl rfl ?_
  refine zw_lstore [(6, .long 1), (4, .long 0), (0, .long 0), (2, .long 1)] 17 f125_15 rfl (by decide +kernel) rfl ?_
  refine zw_lload 19 f125_17 rfl rfl ?_
  refine zw_lconst 0 20 f125_19 rfl (by decide +kernel) ?_
  refine zw_lcmp 1 21 f125_20 rfl (by decide +kernel) ?_
  refine zw_if_eq_f 24 42 f125_21 (by decide +kernel) rfl (by decide +kernel) ?_
  refine zw_lload 26 f125_24 rfl rfl ?_
  refine zw_lload 28 f125_26 rfl rfl ?_
  refine zw_lrem 0 29 f125_28 rfl (by decide +kernel) (by decide +kernel) ?_
  refine zw_lstore [(8, .long 0), (6, .long 1), (4, .long 0), (0, .long 0), (2, .long 1)] 31 f125_29 rfl (by decide +kernel) rfl ?_
  refine zw_lload 33 f125_31 rfl rfl ?_
  refine zw_lstore [(4, .long 1), (8, .long 0), (6, .long 1), (0, .long 0), (2, .long 1)] 35 f125_33 rfl (by decide +kernel) rfl ?_
  refine zw_lload 37 f125_35 rfl rfl ?_
  refine zw_lstore [(6, .long 0), (4, .long 1), (8, .long 0), (0, .long 0), (2, .long 1)] 39 f125_37 rfl (by decide +kernel) rfl ?_
  refine zw_goto 17 f125_39 (by decide +kernel) ?_
  refine zw_lload 19 f125_17 rfl rfl ?_
  refine zw_lconst 0 20 f125_19 rfl (by decide +kernel) ?_
  refine zw_lcmp 0 21 f125_20 rfl (by decide +kernel) ?_
  refine zw_if_eq_t 42 f125_21 (by decide +kernel) (by decide +kernel) ?_
  refine zw_lload 44 f125_42 rfl rfl ?_
  refine zw_lreturn f125_44 r125 u125 ⟨_, rfl, ?_⟩
  refine zw_putfieldS 54 f135_51 rfl g135_161_12 (zg_eq (zg_ne rfl (zg_ne rfl (zg_ne rfl (zg_ne rfl (zg_ne rfl (zg_ne rfl (zg_eq (mb_52 x))))))))) rfl (zg_eq (zg_ne rfl rfl)) (by decide +kernel) ?_
  refine zw_iinc 6 [(1, .int 6), (0, .ref 52)] 57 f135_54 rfl rfl (by decide +kernel) (by decide +kernel) rfl ?_
  refine zw_goto 31 f135_57 (by decide +kernel) ?_
  refine zw_iload_n 32 f135_31 rfl rfl ?_
  refine zw_bipush 8 34 f135_32 rfl (by decide +kernel) ?_
  refine zw_ic_ge_f 37 60 f135_34 (by decide +kernel) rfl (by decide +kernel) ?_
  refine zw_aload_n 38 f135_37 rfl rfl ?_
  refine zw_aload_n 39 f135_38 rfl rfl ?_
  refine zw_getfield 42 f135_39 rfl g135_44_12 (zg_eq (zg_ne rfl (zg_ne rfl (zg_ne rfl (zg_ne rfl (zg_ne rfl (zg_ne rfl (zg_eq (mb_52 x))))))))) (zg_ne rfl (zg_ne rfl rfl)) ?_
  refine zw_iload_n 43 f135_42 rfl rfl ?_
  refine zw_laload 6 0 44 f135_43 rfl (zg_ne rfl (zg_ne rfl (zg_ne rfl (zg_ne rfl (zg_ne rfl (zg_ne rfl (zg_ne rfl (zg_ne rfl (mb_63 x))))))))) (by decide +kernel) (by decide +kernel) (by decide +kernel) rfl ?_
  refine zw_aload_n 45 f135_44 rfl rfl ?_
  refine zw_getfield 48 f135_45 rfl g135_161_12 (zg_eq (zg_ne rfl (zg_ne rfl (zg_ne rfl (zg_ne rfl (zg_ne rfl (zg_ne rfl (zg_eq (mb_52 x))))))))) (zg_eq (zg_ne rfl rfl)) ?_
  refine zw_static_l 51 0 0 [.long 0, .long 1] [.ref 52] [(0, .long 0), (2, .long 1)] f135_48 rfl k135_164_99 rfl (by decide +kernel) (Nat.le_of_ble_eq_true rfl) (Nat.le_of_ble_eq_true rfl) rfl rfl (by decide +kernel) (by decide +kernel) rfl (Nat.le_of_ble_eq_true rfl) rfl ?_
  refine zw_lload_n 1 f125_0 rfl rfl ?_
  refine zw_lconst 0 2 f125_1 rfl (by decide +kernel) ?_
  refine zw_lcmp 0 3 f125_2 rfl (by decide +kernel) ?_
  refine zw_if_ge_t 11 f125_3 (by decide +kernel) (by decide +kernel) ?_
  refine zw_lload_n 12 f125_11 rfl rfl ?_
  refine zw_lstore [(4, .long 0), (0, .long 0), (2, .long 1)] 14 f125_12 rfl (by decide +kernel) rfl ?_
  refine zw_lload_n 15 f125_14 rfl rfl ?_
  refine zw_lstore [(6, .long 1), (4, .long 0), (0, .long 0), (2, .long 1)] 17 f125_15 rfl (by decide +kernel) rfl ?_
  refine zw_lload 19 f125_17 rfl rfl ?_
  refine zw_lconst 0 20 f125_19 rfl (by decide +kernel) ?_
  refine zw_lcmp 1 21 f125_20 rfl (by decide +kernel) ?_
  refine zw_if_eq_f 24 42 f125_21 (by decide +kernel) rfl (by decide +kernel) ?_
  refine zw_lload 26 f125_24 rfl rfl ?_
  refine zw_lload 28 f125_26 rfl rfl ?_
  refine zw_lrem 0 29 f125_28 rfl (by decide +kernel) (by decide +kernel) ?_
  refine zw_lstore [(8, .long 0), (6, .long 1), (4, .long 0), (0, .long 0), (2, .long 1)] 31 f125_29 rfl (by decide +kernel) rfl ?_
  refine zw_lload 33 f125_31 rfl rfl ?_
  refine zw_lstore [(4, .long 1), (8, .long 0), (6, .long 1), (0, .long 0), (2, .long 1)] 35 f125_33 rfl (by decide +kernel) rfl ?_
  refine zw_lload 37 f125_35 rfl rfl ?_
  refine zw_lstore [(6, .long 0), (4, .long 1), (8, .long 0), (0, .long 0), (2, .long 1)] 39 f125_37 rfl (by decide +kernel) rfl ?_
  refine zw_goto 17 f125_39 (by decide +kernel) ?_
  refine zw_lload 19 f125_17 rfl rfl ?_
  refine zw_lconst 0 20 f125_19 rfl (by decide +kernel) ?_
  refine zw_lcmp 0 21 f125_20 rfl (by decide +kernel) ?_
  refine zw_if_eq_t 42 f125_21 (by decide +kernel) (by decide +kernel) ?_
  refine zw_lload 44 f125_42 rfl rfl ?_
  refine zw_lreturn f125_44 r125 u125 ⟨_, rfl, ?_⟩
  refine zw_putfieldS 54 f135_51 rfl g135_161_12 (zg_eq (zg_ne rfl (zg_ne rfl (zg_ne rfl (zg_ne rfl (zg_ne rfl (zg_ne rfl (zg_eq (mb_52 x))))))))) rfl (zg_eq (zg_ne rfl rfl)) (by decide +kernel) ?_
  refine zw_iinc 7 [(1, .int 7), (0, .ref 52)] 57 f135_54 rfl rfl (by decide +kernel) (by decide +kernel) rfl ?_
  refine zw_goto 31 f135_57 (by decide +kernel) ?_
  refine zw_iload_n 32 f135_31 rfl rfl ?_
  refine zw_bipush 8 34 f135_32 rfl (by decide +kernel) ?_
  refine zw_ic_ge_f 37 60 f135_34 (by decide +kernel) rfl (by decide +kernel) ?_
  refine zw_aload_n 38 f135_37 rfl rfl ?_
  refine zw_aload_n 39 f135_38 rfl rfl ?_
  refine zw_getfield 42 f135_39 rfl g135_44_12 (zg_eq (zg_ne rfl (zg_ne rfl (zg_ne rfl (zg_ne rfl (zg_ne rfl (zg_ne rfl (zg_eq (mb_52 x))))))))) (zg_ne rfl (zg_ne rfl rfl)) ?_
  refine zw_iload_n 43 f135_42 rfl rfl ?_
  refine zw_laload 7 0 44 f135_43 rfl (zg_ne rfl (zg_ne rfl (zg_ne rfl (zg_ne rfl (zg_ne rfl (zg_ne rfl (zg_ne rfl (zg_ne rfl (mb_63 x))))))))) (by decide +kernel) (by decide +kernel) (by decide +kernel) rfl ?_
  refine zw_aload_n 45 f135_44 rfl rfl ?_
  refine zw_getfield 48 f135_45 rfl g135_161_12 (zg_eq (zg_ne rfl (zg_ne rfl (zg_ne rfl (zg_ne rfl (zg_ne rfl (zg_ne rfl (zg_eq (mb_52 x))))))))) (zg_eq (zg_ne rfl rfl)) ?_
  refine zw_static_l 51 0 0 [.long 0, .long 1] [.ref 52] [(0, .long 0), (2, .long 1)] f135_48 rfl k135_164_99 rfl (by decide +kernel) (Nat.le_of_ble_eq_true rfl) (Nat.le_of_ble_eq_true rfl) rfl rfl (by decide +kernel) (by decide +kernel) rfl (Nat.le_of_ble_eq_true rfl) rfl ?_
  refine zw_lload_n 1 f125_0 rfl rfl ?_
  refine zw_lconst 0 2 f125_1 rfl (by decide +kernel) ?_
  refine zw_lcmp 0 3 f125_2 rfl (by decide +kernel) ?_
  refine zw_if_ge_t 11 f125_3 (by decide +kernel) (by decide +kernel) ?_
  refine zw_lload_n 12 f125_11 rfl rfl ?_
  refine zw_lstore [(4, .long 0), (0, .long 0), (2, .long 1)] 14 f125_12 rfl (by decide +kernel) rfl ?_
  refine zw_lload_n 15 f125_14 rfl rfl ?_
  refine zw_lstore [(6, .long 1), (4, .long 0), (0, .long 0), (2, .long 1)] 17 f125_15 rfl (by decide +kernel) rfl ?_
  refine zw_lload 19 f125_17 rfl rfl ?_
  refine zw_lconst 0 20 f125_19 rfl (by decide +kernel) ?_
  refine zw_lcmp 1 21 f125_20 rfl (by decide +kernel) ?_
  refine zw_if_eq_f 24 42 f125_21 (by decide +kernel) rfl (by decide +kernel) ?_
  refine zw_lload 26 f125_24 rfl rfl ?_
  refine zw_lload 28 f125_26 rfl rfl ?_
  refine zw_lrem 0 29 f125_28 rfl (by decide +kernel) (by decide +kernel) ?_
  refine zw_lstore [(8, .long 0), (6, .long 1), (4, .long 0), (0, .long 0), (2, .long 1)] 31 f125_29 rfl (by decide +kernel) rfl ?_
  refine zw_lload 33 f125_31 rfl rfl ?_
  refine zw_lstore [(4, .long 1), (8, .long 0), (6, .long 1), (0, .long 0), (2, .long 1)] 35 f125_33 rfl (by decide +kernel) rfl ?_
  refine zw_lload 37 f125_35 rfl rfl ?_
  refine zw_lstore [(6, .long 0), (4, .long 1), (8, .long 0), (0, .long 0), (2, .long 1)] 39 f125_37 rfl (by decide +kernel) rfl ?_
  refine zw_goto 17 f125_39 (by decide +kernel) ?_
  refine zw_lload 19 f125_17 rfl rfl ?_
  refine zw_lconst 0 20 f125_19 rfl (by decide +kernel) ?_
  refine zw_lcmp 0 21 f125_20 rfl (by decide +kernel) ?_
  refine zw_if_eq_t 42 f125_21 (by decide +kernel) (by decide +kernel) ?_
  refine zw_lload 44 f125_42 rfl rfl ?_
  refine zw_lreturn f125_44 r125 u125 ⟨_, rfl, ?_⟩
  refine zw_putfieldS 54 f135_51 rfl g135_161_12 (zg_eq (zg_ne rfl (zg_ne rfl (zg_ne rfl (zg_ne rfl (zg_ne rfl (zg_ne rfl (zg_eq (mb_52 x))))))))) rfl (zg_eq (zg_ne rfl rfl)) (by decide +kernel) ?_
  refine zw_iinc 8 [(1, .int 8), (0, .ref 52)] 57 f135_54 rfl rfl (by decide +kernel) (by decide +kernel) rfl ?_
  refine zw_goto 31 f135_57 (by decide +kernel) ?_
  refine zw_iload_n 32 f135_31 rfl rfl ?_
  refine zw_bipush 8 34 f135_32 rfl (by decide +kernel) ?_
  refine zw_ic_ge_t 60 f135_34 (by decide +kernel) (by decide +kernel) ?_
  refine zw_aload_n 61 f135_60 rfl rfl ?_
  refine zw_dup 62 f135_61 rfl rfl ?_
  refine zw_getfield 65 f135_62 rfl g135_172_12 (zg_eq (zg_ne rfl (zg_ne rfl (zg_ne rfl (zg_ne rfl (zg_ne rfl (zg_ne rfl (zg_eq (mb_52 x))))))))) (zg_ne rfl (zg_ne rfl rfl)) ?_
  refine zw_aload_n 66 f135_65 rfl rfl ?_
  refine zw_getfield 69 f135_66 rfl g135_161_12 (zg_eq (zg_ne rfl (zg_ne rfl (zg_ne rfl (zg_ne rfl (zg_ne rfl (zg_ne rfl (zg_eq (mb_52 x))))))))) (zg_eq (zg_ne rfl rfl)) ?_
  refine zw_ldiv 0 70 f135_69 rfl (by decide +kernel) (by decide +kernel) ?_
  refine zw_putfieldS 73 f135_70 rfl g135_172_12 (zg_eq (zg_ne rfl (zg_ne rfl (zg_ne rfl (zg_ne rfl (zg_ne rfl (zg_ne rfl (zg_eq (mb_52 x))))))))) rfl (zg_ne rfl (zg_ne rfl rfl)) (by decide +kernel) ?_
  refine zw_aload_n 74 f135_73 rfl rfl ?_
  refine zw_dup 75 f135_74 rfl rfl ?_
  refine zw_getfield 78 f135_75 rfl g135_175_12 (zg_eq (zg_ne rfl (zg_ne rfl (zg_ne rfl (zg_ne rfl (zg_ne rfl (zg_ne rfl (zg_eq (mb_52 x))))))))) (zg_ne rfl (zg_ne rfl rfl)) ?_
  refine zw_aload_n 79 f135_78 rfl rfl ?_
  refine zw_getfield 82 f135_79 rfl g135_161_12 (zg_eq (zg_ne rfl (zg_ne rfl (zg_ne rfl (zg_ne rfl (zg_ne rfl (zg_ne rfl (zg_eq (mb_52 x))))))))) (zg_eq (zg_ne rfl rfl)) ?_
  refine zw_ldiv 0 83 f135_82 rfl (by decide +kernel) (by decide +kernel) ?_
  refine zw_putfieldS 86 f135_83 rfl g135_175_12 (zg_eq (zg_ne rfl (zg_ne rfl (zg_ne rfl (zg_ne rfl (zg_ne rfl (zg_ne rfl (zg_eq (mb_52 x))))))))) rfl (zg_ne rfl (zg_ne rfl rfl)) (by decide +kernel) ?_
  refine zw_aload_n 87 f135_86 rfl rfl ?_
  refine zw_dup 88 f135_87 rfl rfl ?_
  refine zw_getfield 91 f135_88 rfl g135_178_12 (zg_eq (zg_ne rfl (zg_ne rfl (zg_ne rfl (zg_ne rfl (zg_ne rfl (zg_ne rfl (zg_eq (mb_52 x))))))))) (zg_ne rfl (zg_ne rfl rfl)) ?_
  refine zw_aload_n 92 f135_91 rfl rfl ?_
  refine zw_getfield 95 f135_92 rfl g135_161_12 (zg_eq (zg_ne rfl (zg_ne rfl (zg_ne rfl (zg_ne rfl (zg_ne rfl (zg_ne rfl (zg_eq (mb_52 x))))))))) (zg_eq (zg_ne rfl rfl)) ?_
  refine zw_ldiv 0 96 f135_95 rfl (by decide +kernel) (by decide +kernel) ?_
  refine zw_putfieldS 99 f135_96 rfl g135_178_12 (zg_eq (zg_ne rfl (zg_ne rfl (zg_ne rfl (zg_ne rfl (zg_ne rfl (zg_ne rfl (zg_eq (mb_52 x))))))))) rfl (zg_ne rfl (zg_ne rfl rfl)) (by decide +kernel) ?_
  refine zw_iconst 0 100 f135_99 rfl (by decide +kernel) ?_
  refine zw_istore_n [(1, .int 0), (0, .ref 52)] 101 f135_100 rfl (by decide +kernel) rfl ?_
  refine zw_iload_n 102 f135_101 rfl rfl ?_
  refine zw_bipush 8 104 f135_102 rfl (by decide +kernel) ?_
  refine zw_ic_ge_f 107 126 f135_104 (by decide +kernel) rfl (by decide +kernel) ?_
  refine zw_aload_n 108 f135_107 rfl rfl ?_
  refine zw_getfield 111 f135_108 rfl g135_44_12 (zg_eq (zg_ne rfl (zg_ne rfl (zg_ne rfl (zg_ne rfl (zg_ne rfl (zg_ne rfl (zg_eq (mb_52 x))))))))) (zg_ne rfl (zg_ne rfl rfl)) ?_
  refine zw_iload_n 112 f135_111 rfl rfl ?_
  refine zw_dup2 113 f135_112 rfl rfl rfl ?_
  refine zw_laload 0 0 114 f135_113 rfl (zg_ne rfl (zg_ne rfl (zg_ne rfl (zg_ne rfl (zg_ne rfl (zg_ne rfl (zg_ne rfl (zg_ne rfl (mb_63 x))))))))) (by decide +kernel) (by decide +kernel) (by decide +kernel) rfl ?_
  refine zw_aload_n 115 f135_114 rfl rfl ?_
  refine zw_getfield 118 f135_115 rfl g135_161_12 (zg_eq (zg_ne rfl (zg_ne rfl (zg_ne rfl (zg_ne rfl (zg_ne rfl (zg_ne rfl (zg_eq (mb_52 x))))))))) (zg_eq (zg_ne rfl rfl)) ?_
  refine zw_ldiv 0 119 f135_118 rfl (by decide +kernel) (by decide +kernel) ?_
  refine zw_lastoreS 0 120 f135_119 rfl (zg_ne rfl (zg_ne rfl (zg_ne rfl (zg_ne rfl (zg_ne rfl (zg_ne rfl (zg_ne rfl (zg_ne rfl (mb_63 x))))))))) (by decide +kernel) (by decide +kernel) (by decide +kernel) rfl ?_
  refine zw_iinc 1 [(1, .int 1), (0, .ref 52)] 123 f135_120 rfl rfl (by decide +kernel) (by decide +kernel) rfl ?_
  refine zw_goto 101 f135_123 (by decide +kernel) ?_
  refine zw_iload_n 102 f135_101 rfl rfl ?_
  refine zw_bipush 8 104 f135_102 rfl (by decide +kernel) ?_
  refine zw_ic_ge_f 107 126 f135_104 (by decide +kernel) rfl (by decide +kernel) ?_
  refine zw_aload_n 108 f135_107 rfl rfl ?_
  refine zw_getfield 111 f135_108 rfl g135_44_12 (zg_eq (zg_ne rfl (zg_ne rfl (zg_ne rfl (zg_ne rfl (zg_ne rfl (zg_ne rfl (zg_eq (mb_52 x))))))))) (zg_ne rfl (zg_ne rfl rfl)) ?_
  refine zw_iload_n 112 f135_111 rfl rfl ?_
  refine zw_dup2 113 f135_112 rfl rfl rfl ?_
  refine zw_laload 1 0 114 f135_113 rfl (zg_ne rfl (zg_ne rfl (zg_ne rfl (zg_ne rfl (zg_ne rfl (zg_ne rfl (zg_ne rfl (zg_ne rfl (mb_63 x))))))))) (by decide +kernel) (by decide +kernel) (by decide +kernel) rfl ?_
  refine zw_aload_n 115 f135_114 rfl rfl ?_
  refine zw_getfield 118 f135_115 rfl g135_161_12 (zg_eq (zg_ne rfl (zg_ne rfl (zg_ne rfl (zg_ne rfl (zg_ne rfl (zg_ne rfl (zg_eq (mb_52 x))))))))) (zg_eq (zg_ne rfl rfl)) ?_
  refine zw_ldiv 0 119 f135_118 rfl (by decide +kernel) (by decide +kernel) ?_
  refine zw_lastoreS 1 120 f135_119 rfl (zg_ne rfl (zg_ne rfl (zg_ne rfl (zg_ne rfl (zg_ne rfl (zg_ne rfl (zg_ne rfl (zg_ne rfl (mb_63 x))))))))) (by decide +kernel) (by decide +kernel) (by decide +kernel) rfl ?_
  refine zw_iinc 2 [(1, .int 2), (0, .ref 52)] 123 f135_120 rfl rfl (by decide +kernel) (by decide +kernel) rfl ?_
  refine zw_goto 101 f135_123 (by decide +kernel) ?_
  refine zw_iload_n 102 f135_101 rfl rfl ?_
  refine zw_bipush 8 104 f135_102 rfl (by decide +kernel) ?_
  refine zw_ic_ge_f 107 126 f135_104 (by decide +kernel) rfl (by decide +kernel) ?_
  refine zw_aload_n 108 f135_107 rfl rfl ?_
  refine zw_getfield 111 f135_108 rfl g135_44_12 (zg_eq (zg_ne rfl (zg_ne rfl (zg_ne rfl (zg_ne rfl (zg_ne rfl (zg_ne rfl (zg_eq (mb_52 x))))))))) (zg_ne rfl (zg_ne rfl rfl)) ?_
  refine zw_iload_n 112 f135_111 rfl rfl ?_
  refine zw_dup2 113 f135_112 rfl rfl rfl ?_
  refine zw_laload 2 0 114 f135_113 rfl (zg_ne rfl (zg_ne rfl (zg_ne rfl (zg_ne rfl (zg_ne rfl (zg_ne rfl (zg_ne rfl (zg_ne rfl (mb_63 x))))))))) (by decide +kernel) (by decide +kernel) (by decide +kernel) rfl ?_
  refine zw_aload_n 115 f135_114 rfl rfl ?_
  refine zw_getfield 118 f135_115 rfl g135_161_12 (zg_eq (zg_ne rfl (zg_ne rfl (zg_ne rfl (zg_ne rfl (zg_ne rfl (zg_ne rfl (zg_eq (mb_52 x))))))))) (zg_eq (zg_ne rfl rfl)) ?_
  refine zw_ldiv 0 119 f135_118 rfl (by decide +kernel) (by decide +kernel) ?_
  refine zw_lastoreS 2 120 f135_119 rfl (zg_ne rfl (zg_ne rfl (zg_ne rfl (zg_ne rfl (zg_ne rfl (zg_ne rfl (zg_ne rfl (zg_ne rfl (mb_63 x))))))))) (by decide +kernel) (by decide +kernel) (by decide +kernel) rfl ?_
  refine zw_iinc 3 [(1, .int 3), (0, .ref 52)] 123 f135_120 rfl rfl (by decide +kernel) (by decide +kernel) rfl ?_
  refine zw_goto 101 f135_123 (by decide +kernel) ?_
  refine zw_iload_n 102 f135_101 rfl rfl ?_
  refine zw_bipush 8 104 f135_102 rfl (by decide +kernel) ?_
  refine zw_ic_ge_f 107 126 f135_104 (by decide +kernel) rfl (by decide +kernel) ?_
  refine zw_aload_n 108 f135_107 rfl rfl ?_
  refine zw_getfield 111 f135_108 rfl g135_44_12 (zg_eq (zg_ne rfl (zg_ne rfl (zg_ne rfl (zg_ne rfl (zg_ne rfl (zg_ne rfl (zg_eq (mb_52 x))))))))) (zg_ne rfl (zg_ne rfl rfl)) ?_
  refine zw_iload_n 112 f135_111 rfl rfl ?_
  refine zw_dup2 113 f135_112 rfl rfl rfl ?_
  refine zw_laload 3 0 114 f135_113 rfl (zg_ne rfl (zg_ne rfl (zg_ne rfl (zg_ne rfl (zg_ne rfl (zg_ne rfl (zg_ne rfl (zg_ne rfl (mb_63 x))))))))) (by decide +kernel) (by decide +kernel) (by decide +kernel) rfl ?_
  refine zw_aload_n 115 f135_114 rfl rfl ?_
  refine zw_getfield 118 f135_115 rfl g135_161_12 (zg_eq (zg_ne rfl (zg_ne rfl (zg_ne rfl (zg_ne rfl (zg_ne rfl (zg_ne rfl (zg_eq (mb_52 x))))))))) (zg_eq (zg_ne rfl rfl)) ?_
  refine zw_ldiv 0 119 f135_118 rfl (by decide +kernel) (by decide +kernel) ?_
  refine zw_lastoreS 3 120 f135_119 rfl (zg_ne rfl (zg_ne rfl (zg_ne rfl (zg_ne rfl (zg_ne rfl (zg_ne rfl (zg_ne rfl (zg_ne rfl (mb_63 x))))))))) (by decide +kernel) (by decide +kernel) (by decide +kernel) rfl ?_
  refine zw_iinc 4 [(1, .int 4), (0, .ref 52)] 123 f135_120 rfl rfl (by decide +kernel) (by decide +kernel) rfl ?_
  refine zw_goto 101 f135_123 (by decide +kernel) ?_
  refine zw_iload_n 102 f135_101 rfl rfl ?_
  refine zw_bipush 8 104 f135_102 rfl (by decide +kernel) ?_
  refine zw_ic_ge_f 107 126 f135_104 (by decide +kernel) rfl (by decide +kernel) ?_
  refine zw_aload_n 108 f135_107 rfl rfl ?_
  refine zw_getfield 111 f135_108 rfl g135_44_12 (zg_eq (zg_ne rfl (zg_ne rfl (zg_ne rfl (zg_ne rfl (zg_ne rfl (zg_ne rfl (zg_eq (mb_52 x))))))))) (zg_ne rfl (zg_ne rfl rfl)) ?_
  refine zw_iload_n 112 f135_111 rfl rfl ?_
  refine zw_dup2 113 f135_112 rfl rfl rfl ?_
  refine zw_laload 4 0 114 f135_113 rfl (zg_ne rfl (zg_ne rfl (zg_ne rfl (zg_ne rfl (zg_ne rfl (zg_ne rfl (zg_ne rfl (zg_ne rfl (mb_63 x))))))))) (by decide +kernel) (by decide +kernel) (by decide +kernel) rfl ?_
  refine zw_aload_n 115 f135_114 rfl rfl ?_
  refine zw_getfield 118 f135_115 rfl g135_161_12 (zg_eq (zg_ne rfl (zg_ne rfl (zg_ne rfl (zg_ne rfl (zg_ne rfl (zg_ne rfl (zg_eq (mb_52 x))))))))) (zg_eq (zg_ne rfl rfl)) ?_
  refine zw_ldiv 0 119 f135_118 rfl (by decide +kernel) (by decide +kernel) ?_
  refine zw_lastoreS 4 120 f135_119 rfl (zg_ne rfl (zg_ne rfl (zg_ne rfl (zg_ne rfl (zg_ne rfl (zg_ne rfl (zg_ne rfl (zg_ne rfl (mb_63 x))))))))) (by decide +kernel) (by decide +kernel) (by decide +kernel) rfl ?_
  refine zw_iinc 5 [(1, .int 5), (0, .ref 52)] 123 f135_120 rfl rfl (by decide +kernel) (by decide +kernel) rfl ?_
  refine zw_goto 101 f135_123 (by decide +kernel) ?_
  refine zw_iload_n 102 f135_101 rfl rfl ?_
  refine zw_bipush 8 104 f135_102 rfl (by decide +kernel) ?_
  refine zw_ic_ge_f 107 126 f135_104 (by decide +kernel) rfl (by decide +kernel) ?_
  refine zw_aload_n 108 f135_107 rfl rfl ?_
  refine zw_getfield 111 f135_108 rfl g135_44_12 (zg_eq (zg_ne rfl (zg_ne rfl (zg_ne rfl (zg_ne rfl (zg_ne rfl (zg_ne rfl (zg_eq (mb_52 x))))))))) (zg_ne rfl (zg_ne rfl rfl)) ?_
  refine zw_iload_n 112 f135_111 rfl rfl ?_
  refine zw_dup2 113 f135_112 rfl rfl rfl ?_
  refine zw_laload 5 0 114 f135_113 rfl (zg_ne rfl (zg_ne rfl (zg_ne rfl (zg_ne rfl (zg_ne rfl (zg_ne rfl (zg_ne rfl (zg_ne rfl (mb_63 x))))))))) (by decide +kernel) (by decide +kernel) (by decide +kernel) rfl ?_
  refine zw_aload_n 115 f135_114 rfl rfl ?_
  refine zw_getfield 118 f135_115 rfl g135_161_12 (zg_eq (zg_ne rfl (zg_ne rfl (zg_ne rfl (zg_ne rfl (zg_ne rfl (zg_ne rfl (zg_eq (mb_52 x))))))))) (zg_eq (zg_ne rfl rfl)) ?_
  refine zw_ldiv 0 119 f135_118 rfl (by decide +kernel) (by decide +kernel) ?_
  refine zw_lastoreS 5 120 f135_119 rfl (zg_ne rfl (zg_ne rfl (zg_ne rfl (zg_ne rfl (zg_ne rfl (zg_ne rfl (zg_ne rfl (zg_ne rfl (mb_63 x))))))))) (by decide +kernel) (by decide +kernel) (by decide +kernel) rfl ?_
  refine zw_iinc 6 [(1, .int 6), (0, .ref 52)] 123 f135_120 rfl rfl (by decide +kernel) (by decide +kernel) rfl ?_
  refine zw_goto 101 f135_123 (by decide +kernel) ?_
  refine zw_iload_n 102 f135_101 rfl rfl ?_
  refine zw_bipush 8 104 f135_102 rfl (by decide +kernel) ?_
  refine zw_ic_ge_f 107 126 f135_104 (by decide +kernel) rfl (by decide +kernel) ?_
  refine zw_aload_n 108 f135_107 rfl rfl ?_
  refine zw_getfield 111 f135_108 rfl g135_44_12 (zg_eq (zg_ne rfl (zg_ne rfl (zg_ne rfl (zg_ne rfl (zg_ne rfl (zg_ne rfl (zg_eq (mb_52 x))))))))) (zg_ne rfl (zg_ne rfl rfl)) ?_
  refine zw_iload_n 112 f135_111 rfl rfl ?_
  refine zw_dup2 113 f135_112 rfl rfl rfl ?_
  refine zw_laload 6 0 114 f135_113 rfl (zg_ne rfl (zg_ne rfl (zg_ne rfl (zg_ne rfl (zg_ne rfl (zg_ne rfl (zg_ne rfl (zg_ne rfl (mb_63 x))))))))) (by decide +kernel) (by decide +kernel) (by decide +kernel) rfl ?_
  refine zw_aload_n 115 f135_114 rfl rfl ?_
  refine zw_getfield 118 f135_115 rfl g135_161_12 (zg_eq (zg_ne rfl (zg_ne rfl (zg_ne rfl (zg_ne rfl (zg_ne rfl (zg_ne rfl (zg_eq (mb_52 x))))))))) (zg_eq (zg_ne rfl rfl)) ?_
  refine zw_ldiv 0 119 f135_118 rfl (by decide +kernel) (by decide +kernel) ?_
  refine zw_lastoreS 6 120 f135_119 rfl (zg_ne rfl (zg_ne rfl (zg_ne rfl (zg_ne rfl (zg_ne rfl (zg_ne rfl (zg_ne rfl (zg_ne rfl (mb_63 x))))))))) (by decide +kernel) (by decide +kernel) (by decide +kernel) rfl ?_
  refine zw_iinc 7 [(1, .int 7), (0, .ref 52)] 123 f135_120 rfl rfl (by decide +kernel) (by decide +kernel) rfl ?_
  refine zw_goto 101 f135_123 (by decide +kernel) ?_
  refine zw_iload_n 102 f135_101 rfl rfl ?_
  refine zw_bipush 8 104 f135_102 rfl (by decide +kernel) ?_
  refine zw_ic_ge_f 107 126 f135_104 (by decide +kernel) rfl (by decide +kernel) ?_
  refine zw_aload_n 108 f135_107 rfl rfl ?_
  refine zw_getfield 111 f135_108 rfl g135_44_12 (zg_eq (zg_ne rfl (zg_ne rfl (zg_ne rfl (zg_ne rfl (zg_ne rfl (zg_ne rfl (zg_eq (mb_52 x))))))))) (zg_ne rfl (zg_ne rfl rfl)) ?_
  refine zw_iload_n 112 f135_111 rfl rfl ?_
  refine zw_dup2 113 f135_112 rfl rfl rfl ?_
  refine zw_laload 7 0 114 f135_113 rfl (zg_ne rfl (zg_ne rfl (zg_ne rfl (zg_ne rfl (zg_ne rfl (zg_ne rfl (zg_ne rfl (zg_ne rfl (mb_63 x))))))))) (by decide +kernel) (by decide +kernel) (by decide +kernel) rfl ?_
  refine zw_aload_n 115 f135_114 rfl rfl ?_
  refine zw_getfield 118 f135_115 rfl g135_161_12 (zg_eq (zg_ne rfl (zg_ne rfl (zg_ne rfl (zg_ne rfl (zg_ne rfl (zg_ne rfl (zg_eq (mb_52 x))))))))) (zg_eq (zg_ne rfl rfl)) ?_
  refine zw_ldiv 0 119 f135_118 rfl (by decide +kernel) (by decide +kernel) ?_
  refine zw_lastoreS 7 120 f135_119 rfl (zg_ne rfl (zg_ne rfl (zg_ne rfl (zg_ne rfl (zg_ne rfl (zg_ne rfl (zg_ne rfl (zg_ne rfl (mb_63 x))))))))) (by decide +kernel) (by decide +kernel) (by decide +kernel) rfl ?_
  refine zw_iinc 8 [(1, .int 8), (0, .ref 52)] 123 f135_120 rfl rfl (by decide +kernel) (by decide +kernel) rfl ?_
  refine zw_goto 101 f135_123 (by decide +kernel) ?_
  refine zw_iload_n 102 f135_101 rfl rfl ?_
  refine zw_bipush 8 104 f135_102 rfl (by decide +kernel) ?_
  refine zw_ic_ge_t 126 f135_104 (by decide +kernel) (by decide +kernel) ?_
  refine zw_aload_n 127 f135_126 rfl rfl ?_
  refine zw_dup 128 f135_127 rfl rfl ?_
  refine zw_getfield 131 f135_128 rfl g135_40_12 (zg_eq (zg_ne rfl (zg_ne rfl (zg_ne rfl (zg_ne rfl (zg_ne rfl (zg_ne rfl (zg_eq (mb_52 x))))))))) (zg_ne rfl (zg_ne rfl rfl)) ?_
  refine zw_aload_n 132 f135_131 rfl rfl ?_
  refine zw_getfield 135 f135_132 rfl g135_161_12 (zg_eq (zg_ne rfl (zg_ne rfl (zg_ne rfl (zg_ne rfl (zg_ne rfl (zg_ne rfl (zg_eq (mb_52 x))))))))) (zg_eq (zg_ne rfl rfl)) ?_
  refine zw_ldiv 1 136 f135_135 rfl (by decide +kernel) (by decide +kernel) ?_
  refine zw_putfieldS 139 f135_136 rfl g135_40_12 (zg_eq (zg_ne rfl (zg_ne rfl (zg_ne rfl (zg_ne rfl (zg_ne rfl (zg_ne rfl (zg_eq (mb_52 x))))))))) rfl (zg_ne rfl (zg_ne rfl rfl)) (by decide +kernel) ?_
  refine zw_vreturn f135_139 r135 u135 ⟨rfl, ?_⟩
  refine zw_vreturn f138_238 r138 u138 ⟨rfl, ?_⟩
  refine zw_aload_n 5 f140_4 rfl rfl ?_
  refine zw_iload_n 6 f140_5 rfl rfl ?_
  refine zw_virtual_i 9 0 0 [.ref 52, .int 0] [(0, .ref 52), (1, .int 0)] f140_6 rfl n140_205 k140_205_12 rfl (zg_eq (zg_ne rfl (zg_ne rfl (zg_ne rfl (zg_ne rfl (zg_ne rfl (zg_ne rfl (zg_eq (mb_52 x))))))))) (by decide +kernel) (Nat.le_of_ble_eq_true rfl) rfl rfl (by decide +kernel) (by decide +kernel) rfl (Nat.le_of_ble_eq_true rfl) rfl ?_
  refine zw_aload_n 1 f122_0 rfl rfl ?_
  refine zw_iconst 0 2 f122_1 rfl (by decide +kernel) ?_
  refine zw_putfieldS 5 f122_2 rfl g122_111_12 (zg_eq (zg_ne rfl (zg_ne rfl (zg_ne rfl (zg_ne rfl (zg_ne rfl (zg_ne rfl (zg_eq (mb_52 x))))))))) rfl (zg_ne rfl (zg_ne rfl rfl)) (by decide +kernel) ?_
  refine zw_iload_n 6 f122_5 rfl rfl ?_
  refine zw_ireturn f122_6 r122 u122 ⟨_, rfl, ?_⟩
  refine zw_ireturn f140_9 r140 u140 ⟨_, rfl, ?_⟩
  refine zw_ireturn f141_123 r141 u141 ?_
  exact rfl
set_option maxRecDepth 100000 in
set_option maxHeartbeats 0 in
theorem m_vessel_k2 (ro : UInt32 → Nat × (Nat → Int32)) (x : Nat → va_E) (b : Int32) (h3 : ¬ b < 1) (h4 : ¬ 200 < b) : zWp ro 141 0 [(0, .ref 52), (1, .int 2), (2, .int b)] [] (hMx x) 0 0 (fun r _ => r = some (.int 0)) := by
  refine zw_iload_n 1 f141_0 rfl rfl ?_
  refine zw_iconst 0 2 f141_1 rfl (by decide +kernel) ?_
  refine zw_iconst 4 3 f141_2 rfl (by decide +kernel) ?_
  refine zw_static_i 6 0 0 [.int 2, .int 0, .int 4] [] [(0, .int 2), (1, .int 0), (2, .int 4)] f141_3 rfl k141_117_99 rfl (by decide +kernel) (Nat.le_of_ble_eq_true rfl) (Nat.le_of_ble_eq_true rfl) rfl rfl (by decide +kernel) (by decide +kernel) rfl (Nat.le_of_ble_eq_true rfl) rfl ?_
  refine zw_iload_n 1 f120_0 rfl rfl ?_
  refine zw_iload_n 2 f120_1 rfl rfl ?_
  refine zw_ic_lt_f 5 14 f120_2 (by decide +kernel) rfl (by decide +kernel) ?_
  refine zw_iload_n 6 f120_5 rfl rfl ?_
  refine zw_iload_n 7 f120_6 rfl rfl ?_
  refine zw_ic_gt_f 10 14 f120_7 (by decide +kernel) rfl (by decide +kernel) ?_
  refine zw_iconst 1 11 f120_10 rfl (by decide +kernel) ?_
  refine zw_goto 15 f120_11 (by decide +kernel) ?_
  refine zw_zreturn f120_15 r120 u120 (by decide +kernel) ⟨_, rfl, ?_⟩
  refine zw_if_eq_f 9 20 f141_6 (by decide +kernel) rfl (by decide +kernel) ?_
  refine zw_iload_n 10 f141_9 rfl rfl ?_
  refine zw_iconst 1 11 f141_10 rfl (by decide +kernel) ?_
  refine zw_sipush 200 14 f141_11 rfl (by decide +kernel) ?_
  refine zw_static_i 17 0 0 [.int b, .int 1, .int 200] [] [(0, .int b), (1, .int 1), (2, .int 200)] f141_14 rfl k141_117_99 rfl (by decide +kernel) (Nat.le_of_ble_eq_true rfl) (Nat.le_of_ble_eq_true rfl) rfl rfl (by decide +kernel) (by decide +kernel) rfl (Nat.le_of_ble_eq_true rfl) rfl ?_
  refine zw_iload_n 1 f120_0 rfl rfl ?_
  refine zw_iload_n 2 f120_1 rfl rfl ?_
  refine zw_ic_lt_f 5 14 f120_2 (by decide +kernel) rfl h3 ?_
  refine zw_iload_n 6 f120_5 rfl rfl ?_
  refine zw_iload_n 7 f120_6 rfl rfl ?_
  refine zw_ic_gt_f 10 14 f120_7 (by decide +kernel) rfl h4 ?_
  refine zw_iconst 1 11 f120_10 rfl (by decide +kernel) ?_
  refine zw_goto 15 f120_11 (by decide +kernel) ?_
  refine zw_zreturn f120_15 r120 u120 (by decide +kernel) ⟨_, rfl, ?_⟩
  refine zw_if_ne_t 26 f141_17 (by decide +kernel) (by decide +kernel) ?_
  refine zw_aload_n 27 f141_26 rfl rfl ?_
  refine zw_getfield 30 f141_27 rfl g141_114_12 (mb_52 x) rfl ?_
  refine zw_bipush 8 32 f141_30 rfl (by decide +kernel) ?_
  refine zw_ic_ne_t 41 f141_32 (by decide +kernel) (by decide +kernel) ?_
  refine zw_aload_n 42 f141_41 rfl rfl ?_
  refine zw_getfield 45 f141_42 rfl g141_114_12 (mb_52 x) rfl ?_
  refine zw_istore_n [(3, .int 0), (0, .ref 52), (1, .int 2), (2, .int b)] 46 f141_45 rfl (by decide +kernel) rfl ?_
  refine zw_aload_n 47 f141_46 rfl rfl ?_
  refine zw_dup 48 f141_47 rfl rfl ?_
  refine zw_getfield 51 f141_48 rfl g141_114_12 (mb_52 x) rfl ?_
  refine zw_iconst 1 52 f141_51 rfl (by decide +kernel) ?_
  refine zw_iadd 1 53 f141_52 rfl (by decide +kernel) ?_
  refine zw_putfield 56 f141_53 rfl g141_114_12 (mb_52 x) rfl (zg_lt rfl) (by decide +kernel) ?_
  refine zw_aload_n 57 f141_56 rfl rfl ?_
  refine zw_getfield 60 f141_57 rfl g141_7_12 (zg_eq (mb_52 x)) (zg_ne rfl rfl) ?_
  refine zw_iload_n 61 f141_60 rfl rfl ?_
  refine zw_iload_n 62 f141_61 rfl rfl ?_
  refine zw_iastore 0 63 f141_62 rfl (zg_ne rfl (mb_53 x)) (by decide +kernel) (by decide +kernel) (by decide +kernel) ?_
  refine zw_aload_n 64 f141_63 rfl rfl ?_
  refine zw_getfield 67 f141_64 rfl g141_13_12 (zg_ne rfl (zg_eq (mb_52 x))) (zg_ne rfl rfl) ?_
  refine zw_iload_n 68 f141_67 rfl rfl ?_
  refine zw_iload_n 69 f141_68 rfl rfl ?_
  refine zw_iastore 0 70 f141_69 rfl (zg_ne rfl (zg_ne rfl (mb_54 x))) (by decide +kernel) (by decide +kernel) (by decide +kernel) ?_
  refine zw_aload_n 71 f141_70 rfl rfl ?_
  refine zw_getfield 74 f141_71 rfl g141_16_12 (zg_ne rfl (zg_ne rfl (zg_eq (mb_52 x)))) (zg_ne rfl rfl) ?_
  refine zw_iload_n 75 f141_74 rfl rfl ?_
  refine zw_iload_n 76 f141_75 rfl rfl ?_
  refine zw_if_eq_f 79 84 f141_76 (by decide +kernel) rfl (by decide +kernel) ?_
  refine zw_iload_n 80 f141_79 rfl rfl ?_
  refine zw_iconst 2 81 f141_80 rfl (by decide +kernel) ?_
  refine zw_ic_ne_f 84 88 f141_81 (by decide +kernel) rfl (by decide +kernel) ?_
  refine zw_iconst 0 85 f141_84 rfl (by decide +kernel) ?_
  refine zw_goto 89 f141_85 (by decide +kernel) ?_
  refine zw_iastoreS 0 90 f141_89 rfl (zg_ne rfl (zg_ne rfl (zg_ne rfl (mb_55 x)))) (by decide +kernel) (by decide +kernel) (by decide +kernel) rfl ?_
  refine zw_aload_n 91 f141_90 rfl rfl ?_
  refine zw_getfield 94 f141_91 rfl g141_19_12 (zg_ne rfl (zg_ne rfl (zg_eq (mb_52 x)))) (zg_ne rfl rfl) ?_
  refine zw_iload_n 95 f141_94 rfl rfl ?_
  refine zw_iconst 0 96 f141_95 rfl (by decide +kernel) ?_
  refine zw_iastoreS 0 97 f141_96 rfl (zg_ne rfl (zg_ne rfl (zg_ne rfl (mb_56 x)))) (by decide +kernel) (by decide +kernel) (by decide +kernel) rfl ?_
  refine zw_aload_n 98 f141_97 rfl rfl ?_
  refine zw_getfield 101 f141_98 rfl g141_22_12 (zg_ne rfl (zg_ne rfl (zg_eq (mb_52 x)))) (zg_ne rfl rfl) ?_
  refine zw_iload_n 102 f141_101 rfl rfl ?_
  refine zw_iconst (-1) 103 f141_102 rfl (by decide +kernel) ?_
  refine zw_iastore 0 104 f141_103 rfl (zg_ne rfl (zg_ne rfl (zg_ne rfl (mb_57 x)))) (by decide +kernel) (by decide +kernel) (by decide +kernel) ?_
  refine zw_aload_n 105 f141_104 rfl rfl ?_
  refine zw_getfield 108 f141_105 rfl g141_25_12 (zg_ne rfl (zg_ne rfl (zg_ne rfl (zg_eq (mb_52 x))))) (zg_ne rfl rfl) ?_
  refine zw_iload_n 109 f141_108 rfl rfl ?_
  refine zw_iconst (-1) 110 f141_109 rfl (by decide +kernel) ?_
  refine zw_iastore 0 111 f141_110 rfl (zg_ne rfl (zg_ne rfl (zg_ne rfl (zg_ne rfl (mb_58 x))))) (by decide +kernel) (by decide +kernel) (by decide +kernel) ?_
  refine zw_aload_n 112 f141_111 rfl rfl ?_
  refine zw_getfield 115 f141_112 rfl g141_28_12 (zg_ne rfl (zg_ne rfl (zg_ne rfl (zg_ne rfl (zg_eq (mb_52 x)))))) (zg_ne rfl rfl) ?_
  refine zw_iload_n 116 f141_115 rfl rfl ?_
  refine zw_iconst (-1) 117 f141_116 rfl (by decide +kernel) ?_
  refine zw_iastore 0 118 f141_117 rfl (zg_ne rfl (zg_ne rfl (zg_ne rfl (zg_ne rfl (zg_ne rfl (mb_59 x)))))) (by decide +kernel) (by decide +kernel) (by decide +kernel) ?_
  refine zw_aload_n 119 f141_118 rfl rfl ?_
  refine zw_iload_n 120 f141_119 rfl rfl ?_
  refine zw_virtual_i 123 0 0 [.ref 52, .int 0] [(0, .ref 52), (1, .int 0)] f141_120 rfl n141_212 k141_212_12 rfl (zg_ne rfl (zg_ne rfl (zg_ne rfl (zg_ne rfl (zg_ne rfl (zg_eq (mb_52 x))))))) (by decide +kernel) (Nat.le_of_ble_eq_true rfl) rfl rfl (by decide +kernel) (by decide +kernel) rfl (Nat.le_of_ble_eq_true rfl) rfl ?_
  refine zw_aload_n 1 f140_0 rfl rfl ?_
  refine zw_virtual_v 4 0 0 [.ref 52] [(0, .ref 52)] f140_1 rfl n140_202 k140_202_12 rfl (zg_ne rfl (zg_ne rfl (zg_ne rfl (zg_ne rfl (zg_ne rfl (zg_eq (mb_52 x))))))) (by decide +kernel) (Nat.le_of_ble_eq_true rfl) rfl rfl (by decide +kernel) (by decide +kernel) rfl (Nat.le_of_ble_eq_true rfl) rfl ?_
  refine zw_iconst 0 1 f138_0 rfl (by decide +kernel) ?_
  refine zw_istore_n [(1, .int 0), (0, .ref 52)] 2 f138_1 rfl (by decide +kernel) rfl ?_
  refine zw_iload_n 3 f138_2 rfl rfl ?_
  refine zw_aload_n 4 f138_3 rfl rfl ?_
  refine zw_getfield 7 f138_4 rfl g138_114_12 (zg_ne rfl (zg_ne rfl (zg_ne rfl (zg_ne rfl (zg_ne rfl (zg_eq (mb_52 x))))))) (zg_eq rfl) ?_
  refine zw_ic_ge_f 10 79 f138_7 (by decide +kernel) rfl (by decide +kernel) ?_
  refine zw_aload_n 11 f138_10 rfl rfl ?_
  refine zw_getfield 14 f138_11 rfl g138_7_12 (zg_ne rfl (zg_ne rfl (zg_ne rfl (zg_ne rfl (zg_ne rfl (zg_eq (mb_52 x))))))) (zg_ne rfl rfl) ?_
  refine zw_iload_n 15 f138_14 rfl rfl ?_
  refine zw_iaload 0 2 16 f138_15 rfl (zg_ne rfl (zg_ne rfl (zg_ne rfl (zg_ne rfl (zg_eq (zg_ne rfl (mb_53 x))))))) (by decide +kernel) (by decide +kernel) (by decide +kernel) rfl ?_
  refine zw_iconst 2 17 f138_16 rfl (by decide +kernel) ?_
  refine zw_ic_ne_f 20 73 f138_17 (by decide +kernel) rfl (by decide +kernel) ?_
  refine zw_aload_n 21 f138_20 rfl rfl ?_
  refine zw_getfield 24 f138_21 rfl g138_44_12 (zg_ne rfl (zg_ne rfl (zg_ne rfl (zg_ne rfl (zg_ne rfl (zg_eq (mb_52 x))))))) (zg_ne rfl rfl) ?_
  refine zw_iload_n 25 f138_24 rfl rfl ?_
  refine zw_laload 0 0 26 f138_25 rfl (zg_ne rfl (zg_ne rfl (zg_ne rfl (zg_ne rfl (zg_ne rfl (zg_ne rfl (mb_63 x))))))) (by decide +kernel) (by decide +kernel) (by decide +kernel) rfl ?_
  refine zw_aload_n 27 f138_26 rfl rfl ?_
  refine zw_getfield 30 f138_27 rfl g138_13_12 (zg_ne rfl (zg_ne rfl (zg_ne rfl (zg_ne rfl (zg_ne rfl (zg_eq (mb_52 x))))))) (zg_ne rfl rfl) ?_
  refine zw_iload_n 31 f138_30 rfl rfl ?_
  refine zw_iaload 0 b 32 f138_31 rfl (zg_ne rfl (zg_ne rfl (zg_ne rfl (zg_eq (zg_ne rfl (zg_ne rfl (mb_54 x))))))) (by decide +kernel) (by decide +kernel) (by decide +kernel) rfl ?_
  refine zw_i2l b.toInt64 33 f138_32 rfl rfl ?_
  refine zw_aload_n 34 f138_33 rfl rfl ?_
  refine zw_getfield 37 f138_34 rfl g138_40_12 (zg_ne rfl (zg_ne rfl (zg_ne rfl (zg_ne rfl (zg_ne rfl (zg_eq (mb_52 x))))))) (zg_ne rfl rfl) ?_
  refine zw_lmul b.toInt64 38 f138_37 rfl (Int64.mul_one _) ?_
  refine zw_lcmp (-1) 39 f138_38 rfl (zl_pos (zl_one h3)).1 ?_
  refine zw_if_ne_t 73 f138_39 (by decide +kernel) (by decide +kernel) ?_
  refine zw_iinc 1 [(1, .int 1), (0, .ref 52)] 76 f138_73 rfl rfl (by decide +kernel) (by decide +kernel) rfl ?_
  refine zw_goto 2 f138_76 (by decide +kernel) ?_
  refine zw_iload_n 3 f138_2 rfl rfl ?_
  refine zw_aload_n 4 f138_3 rfl rfl ?_
  refine zw_getfield 7 f138_4 rfl g138_114_12 (zg_ne rfl (zg_ne rfl (zg_ne rfl (zg_ne rfl (zg_ne rfl (zg_eq (mb_52 x))))))) (zg_eq rfl) ?_
  refine zw_ic_ge_t 79 f138_7 (by decide +kernel) (by decide +kernel) ?_
  refine zw_iconst 0 80 f138_79 rfl (by decide +kernel) ?_
  refine zw_istore_n [(1, .int 0), (0, .ref 52)] 81 f138_80 rfl (by decide +kernel) rfl ?_
  refine zw_iload_n 82 f138_81 rfl rfl ?_
  refine zw_aload_n 83 f138_82 rfl rfl ?_
  refine zw_getfield 86 f138_83 rfl g138_114_12 (zg_ne rfl (zg_ne rfl (zg_ne rfl (zg_ne rfl (zg_ne rfl (zg_eq (mb_52 x))))))) (zg_eq rfl) ?_
  refine zw_ic_ge_f 89 195 f138_86 (by decide +kernel) rfl (by decide +kernel) ?_
  refine zw_aload_n 90 f138_89 rfl rfl ?_
  refine zw_getfield 93 f138_90 rfl g138_7_12 (zg_ne rfl (zg_ne rfl (zg_ne rfl (zg_ne rfl (zg_ne rfl (zg_eq (mb_52 x))))))) (zg_ne rfl rfl) ?_
  refine zw_iload_n 94 f138_93 rfl rfl ?_
  refine zw_iaload 0 2 95 f138_94 rfl (zg_ne rfl (zg_ne rfl (zg_ne rfl (zg_ne rfl (zg_eq (zg_ne rfl (mb_53 x))))))) (by decide +kernel) (by decide +kernel) (by decide +kernel) rfl ?_
  refine zw_iconst 1 96 f138_95 rfl (by decide +kernel) ?_
  refine zw_ic_ne_t 146 f138_96 (by decide +kernel) (by decide +kernel) ?_
  refine zw_aload_n 147 f138_146 rfl rfl ?_
  refine zw_getfield 150 f138_147 rfl g138_7_12 (zg_ne rfl (zg_ne rfl (zg_ne rfl (zg_ne rfl (zg_ne rfl (zg_eq (mb_52 x))))))) (zg_ne rfl rfl) ?_
  refine zw_iload_n 151 f138_150 rfl rfl ?_
  refine zw_iaload 0 2 152 f138_151 rfl (zg_ne rfl (zg_ne rfl (zg_ne rfl (zg_ne rfl (zg_eq (zg_ne rfl (mb_53 x))))))) (by decide +kernel) (by decide +kernel) (by decide +kernel) rfl ?_
  refine zw_iconst 1 153 f138_152 rfl (by decide +kernel) ?_
  refine zw_ic_ne_t 189 f138_153 (by decide +kernel) (by decide +kernel) ?_
  refine zw_iinc 1 [(1, .int 1), (0, .ref 52)] 192 f138_189 rfl rfl (by decide +kernel) (by decide +kernel) rfl ?_
  refine zw_goto 81 f138_192 (by decide +kernel) ?_
  refine zw_iload_n 82 f138_81 rfl rfl ?_
  refine zw_aload_n 83 f138_82 rfl rfl ?_
  refine zw_getfield 86 f138_83 rfl g138_114_12 (zg_ne rfl (zg_ne rfl (zg_ne rfl (zg_ne rfl (zg_ne rfl (zg_eq (mb_52 x))))))) (zg_eq rfl) ?_
  refine zw_ic_ge_t 195 f138_86 (by decide +kernel) (by decide +kernel) ?_
  refine zw_iconst 0 196 f138_195 rfl (by decide +kernel) ?_
  refine zw_istore_n [(1, .int 0), (0, .ref 52)] 197 f138_196 rfl (by decide +kernel) rfl ?_
  refine zw_iload_n 198 f138_197 rfl rfl ?_
  refine zw_aload_n 199 f138_198 rfl rfl ?_
  refine zw_getfield 202 f138_199 rfl g138_114_12 (zg_ne rfl (zg_ne rfl (zg_ne rfl (zg_ne rfl (zg_ne rfl (zg_eq (mb_52 x))))))) (zg_eq rfl) ?_
  refine zw_ic_ge_f 205 234 f138_202 (by decide +kernel) rfl (by decide +kernel) ?_
  refine zw_aload_n 206 f138_205 rfl rfl ?_
  refine zw_iload_n 207 f138_206 rfl rfl ?_
  refine zw_virtual_i 210 0 0 [.ref 52, .int 0] [(0, .ref 52), (1, .int 0)] f138_207 rfl n138_158 k138_158_12 rfl (zg_ne rfl (zg_ne rfl (zg_ne rfl (zg_ne rfl (zg_ne rfl (zg_eq (mb_52 x))))))) (by decide +kernel) (Nat.le_of_ble_eq_true rfl) rfl rfl (by decide +kernel) (by decide +kernel) rfl (Nat.le_of_ble_eq_true rfl) rfl ?_
  refine zw_aload_n 1 f126_0 rfl rfl ?_
  refine zw_getfield 4 f126_1 rfl g126_7_12 (zg_ne rfl (zg_ne rfl (zg_ne rfl (zg_ne rfl (zg_ne rfl (zg_eq (mb_52 x))))))) (zg_ne rfl rfl) ?_
  refine zw_iload_n 5 f126_4 rfl rfl ?_
  refine zw_iaload 0 2 6 f126_5 rfl (zg_ne rfl (zg_ne rfl (zg_ne rfl (zg_ne rfl (zg_eq (zg_ne rfl (mb_53 x))))))) (by decide +kernel) (by decide +kernel) (by decide +kernel) rfl ?_
  refine zw_iconst 3 7 f126_6 rfl (by decide +kernel) ?_
  refine zw_ic_eq_f 10 20 f126_7 (by decide +kernel) rfl (by decide +kernel) ?_
  refine zw_aload_n 11 f126_10 rfl rfl ?_
  refine zw_getfield 14 f126_11 rfl g126_7_12 (zg_ne rfl (zg_ne rfl (zg_ne rfl (zg_ne rfl (zg_ne rfl (zg_eq (mb_52 x))))))) (zg_ne rfl rfl) ?_
  refine zw_iload_n 15 f126_14 rfl rfl ?_
  refine zw_iaload 0 2 16 f126_15 rfl (zg_ne rfl (zg_ne rfl (zg_ne rfl (zg_ne rfl (zg_eq (zg_ne rfl (mb_53 x))))))) (by decide +kernel) (by decide +kernel) (by decide +kernel) rfl ?_
  refine zw_iconst 4 17 f126_16 rfl (by decide +kernel) ?_
  refine zw_ic_ne_t 24 f126_17 (by decide +kernel) (by decide +kernel) ?_
  refine zw_iconst 0 25 f126_24 rfl (by decide +kernel) ?_
  refine zw_zreturn f126_25 r126 u126 (by decide +kernel) ⟨_, rfl, ?_⟩
  refine zw_if_eq_t 228 f138_210 (by decide +kernel) (by decide +kernel) ?_
  refine zw_iinc 1 [(1, .int 1), (0, .ref 52)] 231 f138_228 rfl rfl (by decide +kernel) (by decide +kernel) rfl ?_
  refine zw_goto 197 f138_231 (by decide +kernel) ?_
  refine zw_iload_n 198 f138_197 rfl rfl ?_
  refine zw_aload_n 199 f138_198 rfl rfl ?_
  refine zw_getfield 202 f138_199 rfl g138_114_12 (zg_ne rfl (zg_ne rfl (zg_ne rfl (zg_ne rfl (zg_ne rfl (zg_eq (mb_52 x))))))) (zg_eq rfl) ?_
  refine zw_ic_ge_t 234 f138_202 (by decide +kernel) (by decide +kernel) ?_
  refine zw_aload_n 235 f138_234 rfl rfl ?_
  refine zw_virtual_v 238 0 0 [.ref 52] [(0, .ref 52)] f138_235 rfl n138_199 k138_199_12 rfl (zg_ne rfl (zg_ne rfl (zg_ne rfl (zg_ne rfl (zg_ne rfl (zg_eq (mb_52 x))))))) (by decide +kernel) (Nat.le_of_ble_eq_true rfl) rfl rfl (by decide +kernel) (by decide +kernel) rfl (Nat.le_of_ble_eq_true rfl) rfl ?_
  refine zw_aload_n 1 f135_0 rfl rfl ?_
  refine zw_aload_n 2 f135_1 rfl rfl ?_
  refine zw_getfield 5 f135_2 rfl g135_172_12 (zg_ne rfl (zg_ne rfl (zg_ne rfl (zg_ne rfl (zg_ne rfl (zg_eq (mb_52 x))))))) (zg_ne rfl rfl) ?_
  refine zw_aload_n 6 f135_5 rfl rfl ?_
  refine zw_getfield 9 f135_6 rfl g135_175_12 (zg_ne rfl (zg_ne rfl (zg_ne rfl (zg_ne rfl (zg_ne rfl (zg_eq (mb_52 x))))))) (zg_ne rfl rfl) ?_
  refine zw_aload_n 10 f135_9 rfl rfl ?_
  refine zw_getfield 13 f135_10 rfl g135_178_12 (zg_ne rfl (zg_ne rfl (zg_ne rfl (zg_ne rfl (zg_ne rfl (zg_eq (mb_52 x))))))) (zg_ne rfl rfl) ?_
  refine zw_aload_n 14 f135_13 rfl rfl ?_
  refine zw_getfield 17 f135_14 rfl g135_40_12 (zg_ne rfl (zg_ne rfl (zg_ne rfl (zg_ne rfl (zg_ne rfl (zg_eq (mb_52 x))))))) (zg_ne rfl rfl) ?_
  refine zw_static_l 20 0 0 [.long 0, .long 1] [.long 0, .long 0, .ref 52] [(0, .long 0), (2, .long 1)] f135_17 rfl k135_164_99 rfl (by decide +kernel) (Nat.le_of_ble_eq_true rfl) (Nat.le_of_ble_eq_true rfl) rfl rfl (by decide +kernel) (by decide +kernel) rfl (Nat.le_of_ble_eq_true rfl) rfl ?_
  refine zw_lload_n 1 f125_0 rfl rfl ?_
  refine zw_lconst 0 2 f125_1 rfl (by decide +kernel) ?_
  refine zw_lcmp 0 3 f125_2 rfl (by decide +kernel) ?_
  refine zw_if_ge_t 11 f125_3 (by decide +kernel) (by decide +kernel) ?_
  refine zw_lload_n 12 f125_11 rfl rfl ?_
  refine zw_lstore [(4, .long 0), (0, .long 0), (2, .long 1)] 14 f125_12 rfl (by decide +kernel) rfl ?_
  refine zw_lload_n 15 f125_14 rfl rfl ?_
  refine zw_lstore [(6, .long 1), (4, .long 0), (0, .long 0), (2, .long 1)] 17 f125_15 rfl (by decide +kernel) rfl ?_
  refine zw_lload 19 f125_17 rfl rfl ?_
  refine zw_lconst 0 20 f125_19 rfl (by decide +kernel) ?_
  refine zw_lcmp 1 21 f125_20 rfl (by decide +kernel) ?_
  refine zw_if_eq_f 24 42 f125_21 (by decide +kernel) rfl (by decide +kernel) ?_
  refine zw_lload 26 f125_24 rfl rfl ?_
  refine zw_lload 28 f125_26 rfl rfl ?_
  refine zw_lrem 0 29 f125_28 rfl (by decide +kernel) (by decide +kernel) ?_
  refine zw_lstore [(8, .long 0), (6, .long 1), (4, .long 0), (0, .long 0), (2, .long 1)] 31 f125_29 rfl (by decide +kernel) rfl ?_
  refine zw_lload 33 f125_31 rfl rfl ?_
  refine zw_lstore [(4, .long 1), (8, .long 0), (6, .long 1), (0, .long 0), (2, .long 1)] 35 f125_33 rfl (by decide +kernel) rfl ?_
  refine zw_lload 37 f125_35 rfl rfl ?_
  refine zw_lstore [(6, .long 0), (4, .long 1), (8, .long 0), (0, .long 0), (2, .long 1)] 39 f125_37 rfl (by decide +kernel) rfl ?_
  refine zw_goto 17 f125_39 (by decide +kernel) ?_
  refine zw_lload 19 f125_17 rfl rfl ?_
  refine zw_lconst 0 20 f125_19 rfl (by decide +kernel) ?_
  refine zw_lcmp 0 21 f125_20 rfl (by decide +kernel) ?_
  refine zw_if_eq_t 42 f125_21 (by decide +kernel) (by decide +kernel) ?_
  refine zw_lload 44 f125_42 rfl rfl ?_
  refine zw_lreturn f125_44 r125 u125 ⟨_, rfl, ?_⟩
  refine zw_static_l 23 0 0 [.long 0, .long 1] [.long 0, .ref 52] [(0, .long 0), (2, .long 1)] f135_20 rfl k135_164_99 rfl (by decide +kernel) (Nat.le_of_ble_eq_true rfl) (Nat.le_of_ble_eq_true rfl) rfl rfl (by decide +kernel) (by decide +kernel) rfl (Nat.le_of_ble_eq_true rfl) rfl ?_
  refine zw_lload_n 1 f125_0 rfl rfl ?_
  refine zw_lconst 0 2 f125_1 rfl (by decide +kernel) ?_
  refine zw_lcmp 0 3 f125_2 rfl (by decide +kernel) ?_
  refine zw_if_ge_t 11 f125_3 (by decide +kernel) (by decide +kernel) ?_
  refine zw_lload_n 12 f125_11 rfl rfl ?_
  refine zw_lstore [(4, .long 0), (0, .long 0), (2, .long 1)] 14 f125_12 rfl (by decide +kernel) rfl ?_
  refine zw_lload_n 15 f125_14 rfl rfl ?_
  refine zw_lstore [(6, .long 1), (4, .long 0), (0, .long 0), (2, .long 1)] 17 f125_15 rfl (by decide +kernel) rfl ?_
  refine zw_lload 19 f125_17 rfl rfl ?_
  refine zw_lconst 0 20 f125_19 rfl (by decide +kernel) ?_
  refine zw_lcmp 1 21 f125_20 rfl (by decide +kernel) ?_
  refine zw_if_eq_f 24 42 f125_21 (by decide +kernel) rfl (by decide +kernel) ?_
  refine zw_lload 26 f125_24 rfl rfl ?_
  refine zw_lload 28 f125_26 rfl rfl ?_
  refine zw_lrem 0 29 f125_28 rfl (by decide +kernel) (by decide +kernel) ?_
  refine zw_lstore [(8, .long 0), (6, .long 1), (4, .long 0), (0, .long 0), (2, .long 1)] 31 f125_29 rfl (by decide +kernel) rfl ?_
  refine zw_lload 33 f125_31 rfl rfl ?_
  refine zw_lstore [(4, .long 1), (8, .long 0), (6, .long 1), (0, .long 0), (2, .long 1)] 35 f125_33 rfl (by decide +kernel) rfl ?_
  refine zw_lload 37 f125_35 rfl rfl ?_
  refine zw_lstore [(6, .long 0), (4, .long 1), (8, .long 0), (0, .long 0), (2, .long 1)] 39 f125_37 rfl (by decide +kernel) rfl ?_
  refine zw_goto 17 f125_39 (by decide +kernel) ?_
  refine zw_lload 19 f125_17 rfl rfl ?_
  refine zw_lconst 0 20 f125_19 rfl (by decide +kernel) ?_
  refine zw_lcmp 0 21 f125_20 rfl (by decide +kernel) ?_
  refine zw_if_eq_t 42 f125_21 (by decide +kernel) (by decide +kernel) ?_
  refine zw_lload 44 f125_42 rfl rfl ?_
  refine zw_lreturn f125_44 r125 u125 ⟨_, rfl, ?_⟩
  refine zw_static_l 26 0 0 [.long 0, .long 1] [.ref 52] [(0, .long 0), (2, .long 1)] f135_23 rfl k135_164_99 rfl (by decide +kernel) (Nat.le_of_ble_eq_true rfl) (Nat.le_of_ble_eq_true rfl) rfl rfl (by decide +kernel) (by decide +kernel) rfl (Nat.le_of_ble_eq_true rfl) rfl ?_
  refine zw_lload_n 1 f125_0 rfl rfl ?_
  refine zw_lconst 0 2 f125_1 rfl (by decide +kernel) ?_
  refine zw_lcmp 0 3 f125_2 rfl (by decide +kernel) ?_
  refine zw_if_ge_t 11 f125_3 (by decide +kernel) (by decide +kernel) ?_
  refine zw_lload_n 12 f125_11 rfl rfl ?_
  refine zw_lstore [(4, .long 0), (0, .long 0), (2, .long 1)] 14 f125_12 rfl (by decide +kernel) rfl ?_
  refine zw_lload_n 15 f125_14 rfl rfl ?_
  refine zw_lstore [(6, .long 1), (4, .long 0), (0, .long 0), (2, .long 1)] 17 f125_15 rfl (by decide +kernel) rfl ?_
  refine zw_lload 19 f125_17 rfl rfl ?_
  refine zw_lconst 0 20 f125_19 rfl (by decide +kernel) ?_
  refine zw_lcmp 1 21 f125_20 rfl (by decide +kernel) ?_
  refine zw_if_eq_f 24 42 f125_21 (by decide +kernel) rfl (by decide +kernel) ?_
  refine zw_lload 26 f125_24 rfl rfl ?_
  refine zw_lload 28 f125_26 rfl rfl ?_
  refine zw_lrem 0 29 f125_28 rfl (by decide +kernel) (by decide +kernel) ?_
  refine zw_lstore [(8, .long 0), (6, .long 1), (4, .long 0), (0, .long 0), (2, .long 1)] 31 f125_29 rfl (by decide +kernel) rfl ?_
  refine zw_lload 33 f125_31 rfl rfl ?_
  refine zw_lstore [(4, .long 1), (8, .long 0), (6, .long 1), (0, .long 0), (2, .long 1)] 35 f125_33 rfl (by decide +kernel) rfl ?_
  refine zw_lload 37 f125_35 rfl rfl ?_
  refine zw_lstore [(6, .long 0), (4, .long 1), (8, .long 0), (0, .long 0), (2, .long 1)] 39 f125_37 rfl (by decide +kernel) rfl ?_
  refine zw_goto 17 f125_39 (by decide +kernel) ?_
  refine zw_lload 19 f125_17 rfl rfl ?_
  refine zw_lconst 0 20 f125_19 rfl (by decide +kernel) ?_
  refine zw_lcmp 0 21 f125_20 rfl (by decide +kernel) ?_
  refine zw_if_eq_t 42 f125_21 (by decide +kernel) (by decide +kernel) ?_
  refine zw_lload 44 f125_42 rfl rfl ?_
  refine zw_lreturn f125_44 r125 u125 ⟨_, rfl, ?_⟩
  refine zw_putfield 29 f135_26 rfl g135_161_12 (zg_ne rfl (zg_ne rfl (zg_ne rfl (zg_ne rfl (zg_ne rfl (zg_eq (mb_52 x))))))) rfl (zg_lt (zg_ne rfl rfl)) (by decide +kernel) ?_
  refine zw_iconst 0 30 f135_29 rfl (by decide +kernel) ?_
  refine zw_istore_n [(1, .int 0), (0, .ref 52)] 31 f135_30 rfl (by decide +kernel) rfl ?_
  refine zw_iload_n 32 f135_31 rfl rfl ?_
  refine zw_bipush 8 34 f135_32 rfl (by decide +kernel) ?_
  refine zw_ic_ge_f 37 60 f135_34 (by decide +kernel) rfl (by decide +kernel) ?_
  refine zw_aload_n 38 f135_37 rfl rfl ?_
  refine zw_aload_n 39 f135_38 rfl rfl ?_
  refine zw_getfield 42 f135_39 rfl g135_44_12 (zg_eq (zg_ne rfl (zg_ne rfl (zg_ne rfl (zg_ne rfl (zg_ne rfl (zg_eq (mb_52 x)))))))) (zg_ne rfl (zg_ne rfl rfl)) ?_
  refine zw_iload_n 43 f135_42 rfl rfl ?_
  refine zw_laload 0 0 44 f135_43 rfl (zg_ne rfl (zg_ne rfl (zg_ne rfl (zg_ne rfl (zg_ne rfl (zg_ne rfl (zg_ne rfl (mb_63 x)))))))) (by decide +kernel) (by decide +kernel) (by decide +kernel) rfl ?_
  refine zw_aload_n 45 f135_44 rfl rfl ?_
  refine zw_getfield 48 f135_45 rfl g135_161_12 (zg_eq (zg_ne rfl (zg_ne rfl (zg_ne rfl (zg_ne rfl (zg_ne rfl (zg_eq (mb_52 x)))))))) (zg_eq (zg_ne rfl rfl)) ?_
  refine zw_static_l 51 0 0 [.long 0, .long 1] [.ref 52] [(0, .long 0), (2, .long 1)] f135_48 rfl k135_164_99 rfl (by decide +kernel) (Nat.le_of_ble_eq_true rfl) (Nat.le_of_ble_eq_true rfl) rfl rfl (by decide +kernel) (by decide +kernel) rfl (Nat.le_of_ble_eq_true rfl) rfl ?_
  refine zw_lload_n 1 f125_0 rfl rfl ?_
  refine zw_lconst 0 2 f125_1 rfl (by decide +kernel) ?_
  refine zw_lcmp 0 3 f125_2 rfl (by decide +kernel) ?_
  refine zw_if_ge_t 11 f125_3 (by decide +kernel) (by decide +kernel) ?_
  refine zw_lload_n 12 f125_11 rfl rfl ?_
  refine zw_lstore [(4, .long 0), (0, .long 0), (2, .long 1)] 14 f125_12 rfl (by decide +kernel) rfl ?_
  refine zw_lload_n 15 f125_14 rfl rfl ?_
  refine zw_lstore [(6, .long 1), (4, .long 0), (0, .long 0), (2, .long 1)] 17 f125_15 rfl (by decide +kernel) rfl ?_
  refine zw_lload 19 f125_17 rfl rfl ?_
  refine zw_lconst 0 20 f125_19 rfl (by decide +kernel) ?_
  refine zw_lcmp 1 21 f125_20 rfl (by decide +kernel) ?_
  refine zw_if_eq_f 24 42 f125_21 (by decide +kernel) rfl (by decide +kernel) ?_
  refine zw_lload 26 f125_24 rfl rfl ?_
  refine zw_lload 28 f125_26 rfl rfl ?_
  refine zw_lrem 0 29 f125_28 rfl (by decide +kernel) (by decide +kernel) ?_
  refine zw_lstore [(8, .long 0), (6, .long 1), (4, .long 0), (0, .long 0), (2, .long 1)] 31 f125_29 rfl (by decide +kernel) rfl ?_
  refine zw_lload 33 f125_31 rfl rfl ?_
  refine zw_lstore [(4, .long 1), (8, .long 0), (6, .long 1), (0, .long 0), (2, .long 1)] 35 f125_33 rfl (by decide +kernel) rfl ?_
  refine zw_lload 37 f125_35 rfl rfl ?_
  refine zw_lstore [(6, .long 0), (4, .long 1), (8, .long 0), (0, .long 0), (2, .long 1)] 39 f125_37 rfl (by decide +kernel) rfl ?_
  refine zw_goto 17 f125_39 (by decide +kernel) ?_
  refine zw_lload 19 f125_17 rfl rfl ?_
  refine zw_lconst 0 20 f125_19 rfl (by decide +kernel) ?_
  refine zw_lcmp 0 21 f125_20 rfl (by decide +kernel) ?_
  refine zw_if_eq_t 42 f125_21 (by decide +kernel) (by decide +kernel) ?_
  refine zw_lload 44 f125_42 rfl rfl ?_
  refine zw_lreturn f125_44 r125 u125 ⟨_, rfl, ?_⟩
  refine zw_putfieldS 54 f135_51 rfl g135_161_12 (zg_eq (zg_ne rfl (zg_ne rfl (zg_ne rfl (zg_ne rfl (zg_ne rfl (zg_eq (mb_52 x)))))))) rfl (zg_eq (zg_ne rfl rfl)) (by decide +kernel) ?_
  refine zw_iinc 1 [(1, .int 1), (0, .ref 52)] 57 f135_54 rfl rfl (by decide +kernel) (by decide +kernel) rfl ?_
  refine zw_goto 31 f135_57 (by decide +kernel) ?_
  refine zw_iload_n 32 f135_31 rfl rfl ?_
  refine zw_bipush 8 34 f135_32 rfl (by decide +kernel) ?_
  refine zw_ic_ge_f 37 60 f135_34 (by decide +kernel) rfl (by decide +kernel) ?_
  refine zw_aload_n 38 f135_37 rfl rfl ?_
  refine zw_aload_n 39 f135_38 rfl rfl ?_
  refine zw_getfield 42 f135_39 rfl g135_44_12 (zg_eq (zg_ne rfl (zg_ne rfl (zg_ne rfl (zg_ne rfl (zg_ne rfl (zg_eq (mb_52 x)))))))) (zg_ne rfl (zg_ne rfl rfl)) ?_
  refine zw_iload_n 43 f135_42 rfl rfl ?_
  refine zw_laload 1 0 44 f135_43 rfl (zg_ne rfl (zg_ne rfl (zg_ne rfl (zg_ne rfl (zg_ne rfl (zg_ne rfl (zg_ne rfl (mb_63 x)))))))) (by decide +kernel) (by decide +kernel) (by decide +kernel) rfl ?_
  refine zw_aload_n 45 f135_44 rfl rfl ?_
  refine zw_getfield 48 f135_45 rfl g135_161_12 (zg_eq (zg_ne rfl (zg_ne rfl (zg_ne rfl (zg_ne rfl (zg_ne rfl (zg_eq (mb_52 x)))))))) (zg_eq (zg_ne rfl rfl)) ?_
  refine zw_static_l 51 0 0 [.long 0, .long 1] [.ref 52] [(0, .long 0), (2, .long 1)] f135_48 rfl k135_164_99 rfl (by decide +kernel) (Nat.le_of_ble_eq_true rfl) (Nat.le_of_ble_eq_true rfl) rfl rfl (by decide +kernel) (by decide +kernel) rfl (Nat.le_of_ble_eq_true rfl) rfl ?_
  refine zw_lload_n 1 f125_0 rfl rfl ?_
  refine zw_lconst 0 2 f125_1 rfl (by decide +kernel) ?_
  refine zw_lcmp 0 3 f125_2 rfl (by decide +kernel) ?_
  refine zw_if_ge_t 11 f125_3 (by decide +kernel) (by decide +kernel) ?_
  refine zw_lload_n 12 f125_11 rfl rfl ?_
  refine zw_lstore [(4, .long 0), (0, .long 0), (2, .long 1)] 14 f125_12 rfl (by decide +kernel) rfl ?_
  refine zw_lload_n 15 f125_14 rfl rfl ?_
  refine zw_lstore [(6, .long 1), (4, .long 0), (0, .long 0), (2, .long 1)] 17 f125_15 rfl (by decide +kernel) rfl ?_
  refine zw_lload 19 f125_17 rfl rfl ?_
  refine zw_lconst 0 20 f125_19 rfl (by decide +kernel) ?_
  refine zw_lcmp 1 21 f125_20 rfl (by decide +kernel) ?_
  refine zw_if_eq_f 24 42 f125_21 (by decide +kernel) rfl (by decide +kernel) ?_
  refine zw_lload 26 f125_24 rfl rfl ?_
  refine zw_lload 28 f125_26 rfl rfl ?_
  refine zw_lrem 0 29 f125_28 rfl (by decide +kernel) (by decide +kernel) ?_
  refine zw_lstore [(8, .long 0), (6, .long 1), (4, .long 0), (0, .long 0), (2, .long 1)] 31 f125_29 rfl (by decide +kernel) rfl ?_
  refine zw_lload 33 f125_31 rfl rfl ?_
  refine zw_lstore [(4, .long 1), (8, .long 0), (6, .long 1), (0, .long 0), (2, .long 1)] 35 f125_33 rfl (by decide +kernel) rfl ?_
  refine zw_lload 37 f125_35 rfl rfl ?_
  refine zw_lstore [(6, .long 0), (4, .long 1), (8, .long 0), (0, .long 0), (2, .long 1)] 39 f125_37 rfl (by decide +kernel) rfl ?_
  refine zw_goto 17 f125_39 (by decide +kernel) ?_
  refine zw_lload 19 f125_17 rfl rfl ?_
  refine zw_lconst 0 20 f125_19 rfl (by decide +kernel) ?_
  refine zw_lcmp 0 21 f125_20 rfl (by decide +kernel) ?_
  refine zw_if_eq_t 42 f125_21 (by decide +kernel) (by decide +kernel) ?_
  refine zw_lload 44 f125_42 rfl rfl ?_
  refine zw_lreturn f125_44 r125 u125 ⟨_, rfl, ?_⟩
  refine zw_putfieldS 54 f135_51 rfl g135_161_12 (zg_eq (zg_ne rfl (zg_ne rfl (zg_ne rfl (zg_ne rfl (zg_ne rfl (zg_eq (mb_52 x)))))))) rfl (zg_eq (zg_ne rfl rfl)) (by decide +kernel) ?_
  refine zw_iinc 2 [(1, .int 2), (0, .ref 52)] 57 f135_54 rfl rfl (by decide +kernel) (by decide +kernel) rfl ?_
  refine zw_goto 31 f135_57 (by decide +kernel) ?_
  refine zw_iload_n 32 f135_31 rfl rfl ?_
  refine zw_bipush 8 34 f135_32 rfl (by decide +kernel) ?_
  refine zw_ic_ge_f 37 60 f135_34 (by decide +kernel) rfl (by decide +kernel) ?_
  refine zw_aload_n 38 f135_37 rfl rfl ?_
  refine zw_aload_n 39 f135_38 rfl rfl ?_
  refine zw_getfield 42 f135_39 rfl g135_44_12 (zg_eq (zg_ne rfl (zg_ne rfl (zg_ne rfl (zg_ne rfl (zg_ne rfl (zg_eq (mb_52 x)))))))) (zg_ne rfl (zg_ne rfl rfl)) ?_
  refine zw_iload_n 43 f135_42 rfl rfl ?_
  refine zw_laload 2 0 44 f135_43 rfl (zg_ne rfl (zg_ne rfl (zg_ne rfl (zg_ne rfl (zg_ne rfl (zg_ne rfl (zg_ne rfl (mb_63 x)))))))) (by decide +kernel) (by decide +kernel) (by decide +kernel) rfl ?_
  refine zw_aload_n 45 f135_44 rfl rfl ?_
  refine zw_getfield 48 f135_45 rfl g135_161_12 (zg_eq (zg_ne rfl (zg_ne rfl (zg_ne rfl (zg_ne rfl (zg_ne rfl (zg_eq (mb_52 x)))))))) (zg_eq (zg_ne rfl rfl)) ?_
  refine zw_static_l 51 0 0 [.long 0, .long 1] [.ref 52] [(0, .long 0), (2, .long 1)] f135_48 rfl k135_164_99 rfl (by decide +kernel) (Nat.le_of_ble_eq_true rfl) (Nat.le_of_ble_eq_true rfl) rfl rfl (by decide +kernel) (by decide +kernel) rfl (Nat.le_of_ble_eq_true rfl) rfl ?_
  refine zw_lload_n 1 f125_0 rfl rfl ?_
  refine zw_lconst 0 2 f125_1 rfl (by decide +kernel) ?_
  refine zw_lcmp 0 3 f125_2 rfl (by decide +kernel) ?_
  refine zw_if_ge_t 11 f125_3 (by decide +kernel) (by decide +kernel) ?_
  refine zw_lload_n 12 f125_11 rfl rfl ?_
  refine zw_lstore [(4, .long 0), (0, .long 0), (2, .long 1)] 14 f125_12 rfl (by decide +kernel) rfl ?_
  refine zw_lload_n 15 f125_14 rfl rfl ?_
  refine zw_lstore [(6, .long 1), (4, .long 0), (0, .long 0), (2, .long 1)] 17 f125_15 rfl (by decide +kernel) rfl ?_
  refine zw_lload 19 f125_17 rfl rfl ?_
  refine zw_lconst 0 20 f125_19 rfl (by decide +kernel) ?_
  refine zw_lcmp 1 21 f125_20 rfl (by decide +kernel) ?_
  refine zw_if_eq_f 24 42 f125_21 (by decide +kernel) rfl (by decide +kernel) ?_
  refine zw_lload 26 f125_24 rfl rfl ?_
  refine zw_lload 28 f125_26 rfl rfl ?_
  refine zw_lrem 0 29 f125_28 rfl (by decide +kernel) (by decide +kernel) ?_
  refine zw_lstore [(8, .long 0), (6, .long 1), (4, .long 0), (0, .long 0), (2, .long 1)] 31 f125_29 rfl (by decide +kernel) rfl ?_
  refine zw_lload 33 f125_31 rfl rfl ?_
  refine zw_lstore [(4, .long 1), (8, .long 0), (6, .long 1), (0, .long 0), (2, .long 1)] 35 f125_33 rfl (by decide +kernel) rfl ?_
  refine zw_lload 37 f125_35 rfl rfl ?_
  refine zw_lstore [(6, .long 0), (4, .long 1), (8, .long 0), (0, .long 0), (2, .long 1)] 39 f125_37 rfl (by decide +kernel) rfl ?_
  refine zw_goto 17 f125_39 (by decide +kernel) ?_
  refine zw_lload 19 f125_17 rfl rfl ?_
  refine zw_lconst 0 20 f125_19 rfl (by decide +kernel) ?_
  refine zw_lcmp 0 21 f125_20 rfl (by decide +kernel) ?_
  refine zw_if_eq_t 42 f125_21 (by decide +kernel) (by decide +kernel) ?_
  refine zw_lload 44 f125_42 rfl rfl ?_
  refine zw_lreturn f125_44 r125 u125 ⟨_, rfl, ?_⟩
  refine zw_putfieldS 54 f135_51 rfl g135_161_12 (zg_eq (zg_ne rfl (zg_ne rfl (zg_ne rfl (zg_ne rfl (zg_ne rfl (zg_eq (mb_52 x)))))))) rfl (zg_eq (zg_ne rfl rfl)) (by decide +kernel) ?_
  refine zw_iinc 3 [(1, .int 3), (0, .ref 52)] 57 f135_54 rfl rfl (by decide +kernel) (by decide +kernel) rfl ?_
  refine zw_goto 31 f135_57 (by decide +kernel) ?_
  refine zw_iload_n 32 f135_31 rfl rfl ?_
  refine zw_bipush 8 34 f135_32 rfl (by decide +kernel) ?_
  refine zw_ic_ge_f 37 60 f135_34 (by decide +kernel) rfl (by decide +kernel) ?_
  refine zw_aload_n 38 f135_37 rfl rfl ?_
  refine zw_aload_n 39 f135_38 rfl rfl ?_
  refine zw_getfield 42 f135_39 rfl g135_44_12 (zg_eq (zg_ne rfl (zg_ne rfl (zg_ne rfl (zg_ne rfl (zg_ne rfl (zg_eq (mb_52 x)))))))) (zg_ne rfl (zg_ne rfl rfl)) ?_
  refine zw_iload_n 43 f135_42 rfl rfl ?_
  refine zw_laload 3 0 44 f135_43 rfl (zg_ne rfl (zg_ne rfl (zg_ne rfl (zg_ne rfl (zg_ne rfl (zg_ne rfl (zg_ne rfl (mb_63 x)))))))) (by decide +kernel) (by decide +kernel) (by decide +kernel) rfl ?_
  refine zw_aload_n 45 f135_44 rfl rfl ?_
  refine zw_getfield 48 f135_45 rfl g135_161_12 (zg_eq (zg_ne rfl (zg_ne rfl (zg_ne rfl (zg_ne rfl (zg_ne rfl (zg_eq (mb_52 x)))))))) (zg_eq (zg_ne rfl rfl)) ?_
  refine zw_static_l 51 0 0 [.long 0, .long 1] [.ref 52] [(0, .long 0), (2, .long 1)] f135_48 rfl k135_164_99 rfl (by decide +kernel) (Nat.le_of_ble_eq_true rfl) (Nat.le_of_ble_eq_true rfl) rfl rfl (by decide +kernel) (by decide +kernel) rfl (Nat.le_of_ble_eq_true rfl) rfl ?_
  refine zw_lload_n 1 f125_0 rfl rfl ?_
  refine zw_lconst 0 2 f125_1 rfl (by decide +kernel) ?_
  refine zw_lcmp 0 3 f125_2 rfl (by decide +kernel) ?_
  refine zw_if_ge_t 11 f125_3 (by decide +kernel) (by decide +kernel) ?_
  refine zw_lload_n 12 f125_11 rfl rfl ?_
  refine zw_lstore [(4, .long 0), (0, .long 0), (2, .long 1)] 14 f125_12 rfl (by decide +kernel) rfl ?_
  refine zw_lload_n 15 f125_14 rfl rfl ?_
  refine zw_lstore [(6, .long 1), (4, .long 0), (0, .long 0), (2, .long 1)] 17 f125_15 rfl (by decide +kernel) rfl ?_
  refine zw_lload 19 f125_17 rfl rfl ?_
  refine zw_lconst 0 20 f125_19 rfl (by decide +kernel) ?_
  refine zw_lcmp 1 21 f125_20 rfl (by decide +kernel) ?_
  refine zw_if_eq_f 24 42 f125_21 (by decide +kernel) rfl (by decide +kernel) ?_
  refine zw_lload 26 f125_24 rfl rfl ?_
  refine zw_lload 28 f125_26 rfl rfl ?_
  refine zw_lrem 0 29 f125_28 rfl (by decide +kernel) (by decide +kernel) ?_
  refine zw_lstore [(8, .long 0), (6, .long 1), (4, .long 0), (0, .long 0), (2, .long 1)] 31 f125_29 rfl (by decide +kernel) rfl ?_
  refine zw_lload 33 f125_31 rfl rfl ?_
  refine zw_lstore [(4, .long 1), (8, .long 0), (6, .long 1), (0, .long 0), (2, .long 1)] 35 f125_33 rfl (by decide +kernel) rfl ?_
  refine zw_lload 37 f125_35 rfl rfl ?_
  refine zw_lstore [(6, .long 0), (4, .long 1), (8, .long 0), (0, .long 0), (2, .long 1)] 39 f125_37 rfl (by decide +kernel) rfl ?_
  refine zw_goto 17 f125_39 (by decide +kernel) ?_
  refine zw_lload 19 f125_17 rfl rfl ?_
  refine zw_lconst 0 20 f125_19 rfl (by decide +kernel) ?_
  refine zw_lcmp 0 21 f125_20 rfl (by decide +kernel) ?_
  refine zw_if_eq_t 42 f125_21 (by decide +kernel) (by decide +kernel) ?_
  refine zw_lload 44 f125_42 rfl rfl ?_
  refine zw_lreturn f125_44 r125 u125 ⟨_, rfl, ?_⟩
  refine zw_putfieldS 54 f135_51 rfl g135_161_12 (zg_eq (zg_ne rfl (zg_ne rfl (zg_ne rfl (zg_ne rfl (zg_ne rfl (zg_eq (mb_52 x)))))))) rfl (zg_eq (zg_ne rfl rfl)) (by decide +kernel) ?_
  refine zw_iinc 4 [(1, .int 4), (0, .ref 52)] 57 f135_54 rfl rfl (by decide +kernel) (by decide +kernel) rfl ?_
  refine zw_goto 31 f135_57 (by decide +kernel) ?_
  refine zw_iload_n 32 f135_31 rfl rfl ?_
  refine zw_bipush 8 34 f135_32 rfl (by decide +kernel) ?_
  refine zw_ic_ge_f 37 60 f135_34 (by decide +kernel) rfl (by decide +kernel) ?_
  refine zw_aload_n 38 f135_37 rfl rfl ?_
  refine zw_aload_n 39 f135_38 rfl rfl ?_
  refine zw_getfield 42 f135_39 rfl g135_44_12 (zg_eq (zg_ne rfl (zg_ne rfl (zg_ne rfl (zg_ne rfl (zg_ne rfl (zg_eq (mb_52 x)))))))) (zg_ne rfl (zg_ne rfl rfl)) ?_
  refine zw_iload_n 43 f135_42 rfl rfl ?_
  refine zw_laload 4 0 44 f135_43 rfl (zg_ne rfl (zg_ne rfl (zg_ne rfl (zg_ne rfl (zg_ne rfl (zg_ne rfl (zg_ne rfl (mb_63 x)))))))) (by decide +kernel) (by decide +kernel) (by decide +kernel) rfl ?_
  refine zw_aload_n 45 f135_44 rfl rfl ?_
  refine zw_getfield 48 f135_45 rfl g135_161_12 (zg_eq (zg_ne rfl (zg_ne rfl (zg_ne rfl (zg_ne rfl (zg_ne rfl (zg_eq (mb_52 x)))))))) (zg_eq (zg_ne rfl rfl)) ?_
  refine zw_static_l 51 0 0 [.long 0, .long 1] [.ref 52] [(0, .long 0), (2, .long 1)] f135_48 rfl k135_164_99 rfl (by decide +kernel) (Nat.le_of_ble_eq_true rfl) (Nat.le_of_ble_eq_true rfl) rfl rfl (by decide +kernel) (by decide +kernel) rfl (Nat.le_of_ble_eq_true rfl) rfl ?_
  refine zw_lload_n 1 f125_0 rfl rfl ?_
  refine zw_lconst 0 2 f125_1 rfl (by decide +kernel) ?_
  refine zw_lcmp 0 3 f125_2 rfl (by decide +kernel) ?_
  refine zw_if_ge_t 11 f125_3 (by decide +kernel) (by decide +kernel) ?_
  refine zw_lload_n 12 f125_11 rfl rfl ?_
  refine zw_lstore [(4, .long 0), (0, .long 0), (2, .long 1)] 14 f125_12 rfl (by decide +kernel) rfl ?_
  refine zw_lload_n 15 f125_14 rfl rfl ?_
  refine zw_lstore [(6, .long 1), (4, .long 0), (0, .long 0), (2, .long 1)] 17 f125_15 rfl (by decide +kernel) rfl ?_
  refine zw_lload 19 f125_17 rfl rfl ?_
  refine zw_lconst 0 20 f125_19 rfl (by decide +kernel) ?_
  refine zw_lcmp 1 21 f125_20 rfl (by decide +kernel) ?_
  refine zw_if_eq_f 24 42 f125_21 (by decide +kernel) rfl (by decide +kernel) ?_
  refine zw_lload 26 f125_24 rfl rfl ?_
  refine zw_lload 28 f125_26 rfl rfl ?_
  refine zw_lrem 0 29 f125_28 rfl (by decide +kernel) (by decide +kernel) ?_
  refine zw_lstore [(8, .long 0), (6, .long 1), (4, .long 0), (0, .long 0), (2, .long 1)] 31 f125_29 rfl (by decide +kernel) rfl ?_
  refine zw_lload 33 f125_31 rfl rfl ?_
  refine zw_lstore [(4, .long 1), (8, .long 0), (6, .long 1), (0, .long 0), (2, .long 1)] 35 f125_33 rfl (by decide +kernel) rfl ?_
  refine zw_lload 37 f125_35 rfl rfl ?_
  refine zw_lstore [(6, .long 0), (4, .long 1), (8, .long 0), (0, .long 0), (2, .long 1)] 39 f125_37 rfl (by decide +kernel) rfl ?_
  refine zw_goto 17 f125_39 (by decide +kernel) ?_
  refine zw_lload 19 f125_17 rfl rfl ?_
  refine zw_lconst 0 20 f125_19 rfl (by decide +kernel) ?_
  refine zw_lcmp 0 21 f125_20 rfl (by decide +kernel) ?_
  refine zw_if_eq_t 42 f125_21 (by decide +kernel) (by decide +kernel) ?_
  refine zw_lload 44 f125_42 rfl rfl ?_
  refine zw_lreturn f125_44 r125 u125 ⟨_, rfl, ?_⟩
  refine zw_putfieldS 54 f135_51 rfl g135_161_12 (zg_eq (zg_ne rfl (zg_ne rfl (zg_ne rfl (zg_ne rfl (zg_ne rfl (zg_eq (mb_52 x)))))))) rfl (zg_eq (zg_ne rfl rfl)) (by decide +kernel) ?_
  refine zw_iinc 5 [(1, .int 5), (0, .ref 52)] 57 f135_54 rfl rfl (by decide +kernel) (by decide +kernel) rfl ?_
  refine zw_goto 31 f135_57 (by decide +kernel) ?_
  refine zw_iload_n 32 f135_31 rfl rfl ?_
  refine zw_bipush 8 34 f135_32 rfl (by decide +kernel) ?_
  refine zw_ic_ge_f 37 60 f135_34 (by decide +kernel) rfl (by decide +kernel) ?_
  refine zw_aload_n 38 f135_37 rfl rfl ?_
  refine zw_aload_n 39 f135_38 rfl rfl ?_
  refine zw_getfield 42 f135_39 rfl g135_44_12 (zg_eq (zg_ne rfl (zg_ne rfl (zg_ne rfl (zg_ne rfl (zg_ne rfl (zg_eq (mb_52 x)))))))) (zg_ne rfl (zg_ne rfl rfl)) ?_
  refine zw_iload_n 43 f135_42 rfl rfl ?_
  refine zw_laload 5 0 44 f135_43 rfl (zg_ne rfl (zg_ne rfl (zg_ne rfl (zg_ne rfl (zg_ne rfl (zg_ne rfl (zg_ne rfl (mb_63 x)))))))) (by decide +kernel) (by decide +kernel) (by decide +kernel) rfl ?_
  refine zw_aload_n 45 f135_44 rfl rfl ?_
  refine zw_getfield 48 f135_45 rfl g135_161_12 (zg_eq (zg_ne rfl (zg_ne rfl (zg_ne rfl (zg_ne rfl (zg_ne rfl (zg_eq (mb_52 x)))))))) (zg_eq (zg_ne rfl rfl)) ?_
  refine zw_static_l 51 0 0 [.long 0, .long 1] [.ref 52] [(0, .long 0), (2, .long 1)] f135_48 rfl k135_164_99 rfl (by decide +kernel) (Nat.le_of_ble_eq_true rfl) (Nat.le_of_ble_eq_true rfl) rfl rfl (by decide +kernel) (by decide +kernel) rfl (Nat.le_of_ble_eq_true rfl) rfl ?_
  refine zw_lload_n 1 f125_0 rfl rfl ?_
  refine zw_lconst 0 2 f125_1 rfl (by decide +kernel) ?_
  refine zw_lcmp 0 3 f125_2 rfl (by decide +kernel) ?_
  refine zw_if_ge_t 11 f125_3 (by decide +kernel) (by decide +kernel) ?_
  refine zw_lload_n 12 f125_11 rfl rfl ?_
  refine zw_lstore [(4, .long 0), (0, .long 0), (2, .long 1)] 14 f125_12 rfl (by decide +kernel) rfl ?_
  refine zw_lload_n 15 f125_14 rfl rfl ?_
  refine zw_lstore [(6, .long 1), (4, .long 0), (0, .long 0), (2, .long 1)] 17 f125_15 rfl (by decide +kernel) rfl ?_
  refine zw_lload 19 f125_17 rfl rfl ?_
  refine zw_lconst 0 20 f125_19 rfl (by decide +kernel) ?_
  refine zw_lcmp 1 21 f125_20 rfl (by decide +kernel) ?_
  refine zw_if_eq_f 24 42 f125_21 (by decide +kernel) rfl (by decide +kernel) ?_
  refine zw_lload 26 f125_24 rfl rfl ?_
  refine zw_lload 28 f125_26 rfl rfl ?_
  refine zw_lrem 0 29 f125_28 rfl (by decide +kernel) (by decide +kernel) ?_
  refine zw_lstore [(8, .long 0), (6, .long 1), (4, .long 0), (0, .long 0), (2, .long 1)] 31 f125_29 rfl (by decide +kernel) rfl ?_
  refine zw_lload 33 f125_31 rfl rfl ?_
  refine zw_lstore [(4, .long 1), (8, .long 0), (6, .long 1), (0, .long 0), (2, .long 1)] 35 f125_33 rfl (by decide +kernel) rfl ?_
  refine zw_lload 37 f125_35 rfl rfl ?_
  refine zw_lstore [(6, .long 0), (4, .long 1), (8, .long 0), (0, .long 0), (2, .long 1)] 39 f125_37 rfl (by decide +kernel) rfl ?_
  refine zw_goto 17 f125_39 (by decide +kernel) ?_
  refine zw_lload 19 f125_17 rfl rfl ?_
  refine zw_lconst 0 20 f125_19 rfl (by decide +kernel) ?_
  refine zw_lcmp 0 21 f125_20 rfl (by decide +kernel) ?_
  refine zw_if_eq_t 42 f125_21 (by decide +kernel) (by decide +kernel) ?_
  refine zw_lload 44 f125_42 rfl rfl ?_
  refine zw_lreturn f125_44 r125 u125 ⟨_, rfl, ?_⟩
  refine zw_putfieldS 54 f135_51 rfl g135_161_12 (zg_eq (zg_ne rfl (zg_ne rfl (zg_ne rfl (zg_ne rfl (zg_ne rfl (zg_eq (mb_52 x)))))))) rfl (zg_eq (zg_ne rfl rfl)) (by decide +kernel) ?_
  refine zw_iinc 6 [(1, .int 6), (0, .ref 52)] 57 f135_54 rfl rfl (by decide +kernel) (by decide +kernel) rfl ?_
  refine zw_goto 31 f135_57 (by decide +kernel) ?_
  refine zw_iload_n 32 f135_31 rfl rfl ?_
  refine zw_bipush 8 34 f135_32 rfl (by decide +kernel) ?_
  refine zw_ic_ge_f 37 60 f135_34 (by decide +kernel) rfl (by decide +kernel) ?_
  refine zw_aload_n 38 f135_37 rfl rfl ?_
  refine zw_aload_n 39 f135_38 rfl rfl ?_
  refine zw_getfield 42 f135_39 rfl g135_44_12 (zg_eq (zg_ne rfl (zg_ne rfl (zg_ne rfl (zg_ne rfl (zg_ne rfl (zg_eq (mb_52 x)))))))) (zg_ne rfl (zg_ne rfl rfl)) ?_
  refine zw_iload_n 43 f135_42 rfl rfl ?_
  refine zw_laload 6 0 44 f135_43 rfl (zg_ne rfl (zg_ne rfl (zg_ne rfl (zg_ne rfl (zg_ne rfl (zg_ne rfl (zg_ne rfl (mb_63 x)))))))) (by decide +kernel) (by decide +kernel) (by decide +kernel) rfl ?_
  refine zw_aload_n 45 f135_44 rfl rfl ?_
  refine zw_getfield 48 f135_45 rfl g135_161_12 (zg_eq (zg_ne rfl (zg_ne rfl (zg_ne rfl (zg_ne rfl (zg_ne rfl (zg_eq (mb_52 x)))))))) (zg_eq (zg_ne rfl rfl)) ?_
  refine zw_static_l 51 0 0 [.long 0, .long 1] [.ref 52] [(0, .long 0), (2, .long 1)] f135_48 rfl k135_164_99 rfl (by decide +kernel) (Nat.le_of_ble_eq_true rfl) (Nat.le_of_ble_eq_true rfl) rfl rfl (by decide +kernel) (by decide +kernel) rfl (Nat.le_of_ble_eq_true rfl) rfl ?_
  refine zw_lload_n 1 f125_0 rfl rfl ?_
  refine zw_lconst 0 2 f125_1 rfl (by decide +kernel) ?_
  refine zw_lcmp 0 3 f125_2 rfl (by decide +kernel) ?_
  refine zw_if_ge_t 11 f125_3 (by decide +kernel) (by decide +kernel) ?_
  refine zw_lload_n 12 f125_11 rfl rfl ?_
  refine zw_lstore [(4, .long 0), (0, .long 0), (2, .long 1)] 14 f125_12 rfl (by decide +kernel) rfl ?_
  refine zw_lload_n 15 f125_14 rfl rfl ?_
  refine zw_lstore [(6, .long 1), (4, .long 0), (0, .long 0), (2, .long 1)] 17 f125_15 rfl (by decide +kernel) rfl ?_
  refine zw_lload 19 f125_17 rfl rfl ?_
  refine zw_lconst 0 20 f125_19 rfl (by decide +kernel) ?_
  refine zw_lcmp 1 21 f125_20 rfl (by decide +kernel) ?_
  refine zw_if_eq_f 24 42 f125_21 (by decide +kernel) rfl (by decide +kernel) ?_
  refine zw_lload 26 f125_24 rfl rfl ?_
  refine zw_lload 28 f125_26 rfl rfl ?_
  refine zw_lrem 0 29 f125_28 rfl (by decide +kernel) (by decide +kernel) ?_
  refine zw_lstore [(8, .long 0), (6, .long 1), (4, .long 0), (0, .long 0), (2, .long 1)] 31 f125_29 rfl (by decide +kernel) rfl ?_
  refine zw_lload 33 f125_31 rfl rfl ?_
  refine zw_lstore [(4, .long 1), (8, .long 0), (6, .long 1), (0, .long 0), (2, .long 1)] 35 f125_33 rfl (by decide +kernel) rfl ?_
  refine zw_lload 37 f125_35 rfl rfl ?_
  refine zw_lstore [(6, .long 0), (4, .long 1), (8, .long 0), (0, .long 0), (2, .long 1)] 39 f125_37 rfl (by decide +kernel) rfl ?_
  refine zw_goto 17 f125_39 (by decide +kernel) ?_
  refine zw_lload 19 f125_17 rfl rfl ?_
  refine zw_lconst 0 20 f125_19 rfl (by decide +kernel) ?_
  refine zw_lcmp 0 21 f125_20 rfl (by decide +kernel) ?_
  refine zw_if_eq_t 42 f125_21 (by decide +kernel) (by decide +kernel) ?_
  refine zw_lload 44 f125_42 rfl rfl ?_
  refine zw_lreturn f125_44 r125 u125 ⟨_, rfl, ?_⟩
  refine zw_putfieldS 54 f135_51 rfl g135_161_12 (zg_eq (zg_ne rfl (zg_ne rfl (zg_ne rfl (zg_ne rfl (zg_ne rfl (zg_eq (mb_52 x)))))))) rfl (zg_eq (zg_ne rfl rfl)) (by decide +kernel) ?_
  refine zw_iinc 7 [(1, .int 7), (0, .ref 52)] 57 f135_54 rfl rfl (by decide +kernel) (by decide +kernel) rfl ?_
  refine zw_goto 31 f135_57 (by decide +kernel) ?_
  refine zw_iload_n 32 f135_31 rfl rfl ?_
  refine zw_bipush 8 34 f135_32 rfl (by decide +kernel) ?_
  refine zw_ic_ge_f 37 60 f135_34 (by decide +kernel) rfl (by decide +kernel) ?_
  refine zw_aload_n 38 f135_37 rfl rfl ?_
  refine zw_aload_n 39 f135_38 rfl rfl ?_
  refine zw_getfield 42 f135_39 rfl g135_44_12 (zg_eq (zg_ne rfl (zg_ne rfl (zg_ne rfl (zg_ne rfl (zg_ne rfl (zg_eq (mb_52 x)))))))) (zg_ne rfl (zg_ne rfl rfl)) ?_
  refine zw_iload_n 43 f135_42 rfl rfl ?_
  refine zw_laload 7 0 44 f135_43 rfl (zg_ne rfl (zg_ne rfl (zg_ne rfl (zg_ne rfl (zg_ne rfl (zg_ne rfl (zg_ne rfl (mb_63 x)))))))) (by decide +kernel) (by decide +kernel) (by decide +kernel) rfl ?_
  refine zw_aload_n 45 f135_44 rfl rfl ?_
  refine zw_getfield 48 f135_45 rfl g135_161_12 (zg_eq (zg_ne rfl (zg_ne rfl (zg_ne rfl (zg_ne rfl (zg_ne rfl (zg_eq (mb_52 x)))))))) (zg_eq (zg_ne rfl rfl)) ?_
  refine zw_static_l 51 0 0 [.long 0, .long 1] [.ref 52] [(0, .long 0), (2, .long 1)] f135_48 rfl k135_164_99 rfl (by decide +kernel) (Nat.le_of_ble_eq_true rfl) (Nat.le_of_ble_eq_true rfl) rfl rfl (by decide +kernel) (by decide +kernel) rfl (Nat.le_of_ble_eq_true rfl) rfl ?_
  refine zw_lload_n 1 f125_0 rfl rfl ?_
  refine zw_lconst 0 2 f125_1 rfl (by decide +kernel) ?_
  refine zw_lcmp 0 3 f125_2 rfl (by decide +kernel) ?_
  refine zw_if_ge_t 11 f125_3 (by decide +kernel) (by decide +kernel) ?_
  refine zw_lload_n 12 f125_11 rfl rfl ?_
  refine zw_lstore [(4, .long 0), (0, .long 0), (2, .long 1)] 14 f125_12 rfl (by decide +kernel) rfl ?_
  refine zw_lload_n 15 f125_14 rfl rfl ?_
  refine zw_lstore [(6, .long 1), (4, .long 0), (0, .long 0), (2, .long 1)] 17 f125_15 rfl (by decide +kernel) rfl ?_
  refine zw_lload 19 f125_17 rfl rfl ?_
  refine zw_lconst 0 20 f125_19 rfl (by decide +kernel) ?_
  refine zw_lcmp 1 21 f125_20 rfl (by decide +kernel) ?_
  refine zw_if_eq_f 24 42 f125_21 (by decide +kernel) rfl (by decide +kernel) ?_
  refine zw_lload 26 f125_24 rfl rfl ?_
  refine zw_lload 28 f125_26 rfl rfl ?_
  refine zw_lrem 0 29 f125_28 rfl (by decide +kernel) (by decide +kernel) ?_
  refine zw_lstore [(8, .long 0), (6, .long 1), (4, .long 0), (0, .long 0), (2, .long 1)] 31 f125_29 rfl (by decide +kernel) rfl ?_
  refine zw_lload 33 f125_31 rfl rfl ?_
  refine zw_lstore [(4, .long 1), (8, .long 0), (6, .long 1), (0, .long 0), (2, .long 1)] 35 f125_33 rfl (by decide +kernel) rfl ?_
  refine zw_lload 37 f125_35 rfl rfl ?_
  refine zw_lstore [(6, .long 0), (4, .long 1), (8, .long 0), (0, .long 0), (2, .long 1)] 39 f125_37 rfl (by decide +kernel) rfl ?_
  refine zw_goto 17 f125_39 (by decide +kernel) ?_
  refine zw_lload 19 f125_17 rfl rfl ?_
  refine zw_lconst 0 20 f125_19 rfl (by decide +kernel) ?_
  refine zw_lcmp 0 21 f125_20 rfl (by decide +kernel) ?_
  refine zw_if_eq_t 42 f125_21 (by decide +kernel) (by decide +kernel) ?_
  refine zw_lload 44 f125_42 rfl rfl ?_
  refine zw_lreturn f125_44 r125 u125 ⟨_, rfl, ?_⟩
  refine zw_putfieldS 54 f135_51 rfl g135_161_12 (zg_eq (zg_ne rfl (zg_ne rfl (zg_ne rfl (zg_ne rfl (zg_ne rfl (zg_eq (mb_52 x)))))))) rfl (zg_eq (zg_ne rfl rfl)) (by decide +kernel) ?_
  refine zw_iinc 8 [(1, .int 8), (0, .ref 52)] 57 f135_54 rfl rfl (by decide +kernel) (by decide +kernel) rfl ?_
  refine zw_goto 31 f135_57 (by decide +kernel) ?_
  refine zw_iload_n 32 f135_31 rfl rfl ?_
  refine zw_bipush 8 34 f135_32 rfl (by decide +kernel) ?_
  refine zw_ic_ge_t 60 f135_34 (by decide +kernel) (by decide +kernel) ?_
  refine zw_aload_n 61 f135_60 rfl rfl ?_
  refine zw_dup 62 f135_61 rfl rfl ?_
  refine zw_getfield 65 f135_62 rfl g135_172_12 (zg_eq (zg_ne rfl (zg_ne rfl (zg_ne rfl (zg_ne rfl (zg_ne rfl (zg_eq (mb_52 x)))))))) (zg_ne rfl (zg_ne rfl rfl)) ?_
  refine zw_aload_n 66 f135_65 rfl rfl ?_
  refine zw_getfield 69 f135_66 rfl g135_161_12 (zg_eq (zg_ne rfl (zg_ne rfl (zg_ne rfl (zg_ne rfl (zg_ne rfl (zg_eq (mb_52 x)))))))) (zg_eq (zg_ne rfl rfl)) ?_
  refine zw_ldiv 0 70 f135_69 rfl (by decide +kernel) (by decide +kernel) ?_
  refine zw_putfieldS 73 f135_70 rfl g135_172_12 (zg_eq (zg_ne rfl (zg_ne rfl (zg_ne rfl (zg_ne rfl (zg_ne rfl (zg_eq (mb_52 x)))))))) rfl (zg_ne rfl (zg_ne rfl rfl)) (by decide +kernel) ?_
  refine zw_aload_n 74 f135_73 rfl rfl ?_
  refine zw_dup 75 f135_74 rfl rfl ?_
  refine zw_getfield 78 f135_75 rfl g135_175_12 (zg_eq (zg_ne rfl (zg_ne rfl (zg_ne rfl (zg_ne rfl (zg_ne rfl (zg_eq (mb_52 x)))))))) (zg_ne rfl (zg_ne rfl rfl)) ?_
  refine zw_aload_n 79 f135_78 rfl rfl ?_
  refine zw_getfield 82 f135_79 rfl g135_161_12 (zg_eq (zg_ne rfl (zg_ne rfl (zg_ne rfl (zg_ne rfl (zg_ne rfl (zg_eq (mb_52 x)))))))) (zg_eq (zg_ne rfl rfl)) ?_
  refine zw_ldiv 0 83 f135_82 rfl (by decide +kernel) (by decide +kernel) ?_
  refine zw_putfieldS 86 f135_83 rfl g135_175_12 (zg_eq (zg_ne rfl (zg_ne rfl (zg_ne rfl (zg_ne rfl (zg_ne rfl (zg_eq (mb_52 x)))))))) rfl (zg_ne rfl (zg_ne rfl rfl)) (by decide +kernel) ?_
  refine zw_aload_n 87 f135_86 rfl rfl ?_
  refine zw_dup 88 f135_87 rfl rfl ?_
  refine zw_getfield 91 f135_88 rfl g135_178_12 (zg_eq (zg_ne rfl (zg_ne rfl (zg_ne rfl (zg_ne rfl (zg_ne rfl (zg_eq (mb_52 x)))))))) (zg_ne rfl (zg_ne rfl rfl)) ?_
  refine zw_aload_n 92 f135_91 rfl rfl ?_
  refine zw_getfield 95 f135_92 rfl g135_161_12 (zg_eq (zg_ne rfl (zg_ne rfl (zg_ne rfl (zg_ne rfl (zg_ne rfl (zg_eq (mb_52 x)))))))) (zg_eq (zg_ne rfl rfl)) ?_
  refine zw_ldiv 0 96 f135_95 rfl (by decide +kernel) (by decide +kernel) ?_
  refine zw_putfieldS 99 f135_96 rfl g135_178_12 (zg_eq (zg_ne rfl (zg_ne rfl (zg_ne rfl (zg_ne rfl (zg_ne rfl (zg_eq (mb_52 x)))))))) rfl (zg_ne rfl (zg_ne rfl rfl)) (by decide +kernel) ?_
  refine zw_iconst 0 100 f135_99 rfl (by decide +kernel) ?_
  refine zw_istore_n [(1, .int 0), (0, .ref 52)] 101 f135_100 rfl (by decide +kernel) rfl ?_
  refine zw_iload_n 102 f135_101 rfl rfl ?_
  refine zw_bipush 8 104 f135_102 rfl (by decide +kernel) ?_
  refine zw_ic_ge_f 107 126 f135_104 (by decide +kernel) rfl (by decide +kernel) ?_
  refine zw_aload_n 108 f135_107 rfl rfl ?_
  refine zw_getfield 111 f135_108 rfl g135_44_12 (zg_eq (zg_ne rfl (zg_ne rfl (zg_ne rfl (zg_ne rfl (zg_ne rfl (zg_eq (mb_52 x)))))))) (zg_ne rfl (zg_ne rfl rfl)) ?_
  refine zw_iload_n 112 f135_111 rfl rfl ?_
  refine zw_dup2 113 f135_112 rfl rfl rfl ?_
  refine zw_laload 0 0 114 f135_113 rfl (zg_ne rfl (zg_ne rfl (zg_ne rfl (zg_ne rfl (zg_ne rfl (zg_ne rfl (zg_ne rfl (mb_63 x)))))))) (by decide +kernel) (by decide +kernel) (by decide +kernel) rfl ?_
  refine zw_aload_n 115 f135_114 rfl rfl ?_
  refine zw_getfield 118 f135_115 rfl g135_161_12 (zg_eq (zg_ne rfl (zg_ne rfl (zg_ne rfl (zg_ne rfl (zg_ne rfl (zg_eq (mb_52 x)))))))) (zg_eq (zg_ne rfl rfl)) ?_
  refine zw_ldiv 0 119 f135_118 rfl (by decide +kernel) (by decide +kernel) ?_
  refine zw_lastoreS 0 120 f135_119 rfl (zg_ne rfl (zg_ne rfl (zg_ne rfl (zg_ne rfl (zg_ne rfl (zg_ne rfl (zg_ne rfl (mb_63 x)))))))) (by decide +kernel) (by decide +kernel) (by decide +kernel) rfl ?_
  refine zw_iinc 1 [(1, .int 1), (0, .ref 52)] 123 f135_120 rfl rfl (by decide +kernel) (by decide +kernel) rfl ?_
  refine zw_goto 101 f135_123 (by decide +kernel) ?_
  refine zw_iload_n 102 f135_101 rfl rfl ?_
  refine zw_bipush 8 104 f135_102 rfl (by decide +kernel) ?_
  refine zw_ic_ge_f 107 126 f135_104 (by decide +kernel) rfl (by decide +kernel) ?_
  refine zw_aload_n 108 f135_107 rfl rfl ?_
  refine zw_getfield 111 f135_108 rfl g135_44_12 (zg_eq (zg_ne rfl (zg_ne rfl (zg_ne rfl (zg_ne rfl (zg_ne rfl (zg_eq (mb_52 x)))))))) (zg_ne rfl (zg_ne rfl rfl)) ?_
  refine zw_iload_n 112 f135_111 rfl rfl ?_
  refine zw_dup2 113 f135_112 rfl rfl rfl ?_
  refine zw_laload 1 0 114 f135_113 rfl (zg_ne rfl (zg_ne rfl (zg_ne rfl (zg_ne rfl (zg_ne rfl (zg_ne rfl (zg_ne rfl (mb_63 x)))))))) (by decide +kernel) (by decide +kernel) (by decide +kernel) rfl ?_
  refine zw_aload_n 115 f135_114 rfl rfl ?_
  refine zw_getfield 118 f135_115 rfl g135_161_12 (zg_eq (zg_ne rfl (zg_ne rfl (zg_ne rfl (zg_ne rfl (zg_ne rfl (zg_eq (mb_52 x)))))))) (zg_eq (zg_ne rfl rfl)) ?_
  refine zw_ldiv 0 119 f135_118 rfl (by decide +kernel) (by decide +kernel) ?_
  refine zw_lastoreS 1 120 f135_119 rfl (zg_ne rfl (zg_ne rfl (zg_ne rfl (zg_ne rfl (zg_ne rfl (zg_ne rfl (zg_ne rfl (mb_63 x)))))))) (by decide +kernel) (by decide +kernel) (by decide +kernel) rfl ?_
  refine zw_iinc 2 [(1, .int 2), (0, .ref 52)] 123 f135_120 rfl rfl (by decide +kernel) (by decide +kernel) rfl ?_
  refine zw_goto 101 f135_123 (by decide +kernel) ?_
  refine zw_iload_n 102 f135_101 rfl rfl ?_
  refine zw_bipush 8 104 f135_102 rfl (by decide +kernel) ?_
  refine zw_ic_ge_f 107 126 f135_104 (by decide +kernel) rfl (by decide +kernel) ?_
  refine zw_aload_n 108 f135_107 rfl rfl ?_
  refine zw_getfield 111 f135_108 rfl g135_44_12 (zg_eq (zg_ne rfl (zg_ne rfl (zg_ne rfl (zg_ne rfl (zg_ne rfl (zg_eq (mb_52 x)))))))) (zg_ne rfl (zg_ne rfl rfl)) ?_
  refine zw_iload_n 112 f135_111 rfl rfl ?_
  refine zw_dup2 113 f135_112 rfl rfl rfl ?_
  refine zw_laload 2 0 114 f135_113 rfl (zg_ne rfl (zg_ne rfl (zg_ne rfl (zg_ne rfl (zg_ne rfl (zg_ne rfl (zg_ne rfl (mb_63 x)))))))) (by decide +kernel) (by decide +kernel) (by decide +kernel) rfl ?_
  refine zw_aload_n 115 f135_114 rfl rfl ?_
  refine zw_getfield 118 f135_115 rfl g135_161_12 (zg_eq (zg_ne rfl (zg_ne rfl (zg_ne rfl (zg_ne rfl (zg_ne rfl (zg_eq (mb_52 x)))))))) (zg_eq (zg_ne rfl rfl)) ?_
  refine zw_ldiv 0 119 f135_118 rfl (by decide +kernel) (by decide +kernel) ?_
  refine zw_lastoreS 2 120 f135_119 rfl (zg_ne rfl (zg_ne rfl (zg_ne rfl (zg_ne rfl (zg_ne rfl (zg_ne rfl (zg_ne rfl (mb_63 x)))))))) (by decide +kernel) (by decide +kernel) (by decide +kernel) rfl ?_
  refine zw_iinc 3 [(1, .int 3), (0, .ref 52)] 123 f135_120 rfl rfl (by decide +kernel) (by decide +kernel) rfl ?_
  refine zw_goto 101 f135_123 (by decide +kernel) ?_
  refine zw_iload_n 102 f135_101 rfl rfl ?_
  refine zw_bipush 8 104 f135_102 rfl (by decide +kernel) ?_
  refine zw_ic_ge_f 107 126 f135_104 (by decide +kernel) rfl (by decide +kernel) ?_
  refine zw_aload_n 108 f135_107 rfl rfl ?_
  refine zw_getfield 111 f135_108 rfl g135_44_12 (zg_eq (zg_ne rfl (zg_ne rfl (zg_ne rfl (zg_ne rfl (zg_ne rfl (zg_eq (mb_52 x)))))))) (zg_ne rfl (zg_ne rfl rfl)) ?_
  refine zw_iload_n 112 f135_111 rfl rfl ?_
  refine zw_dup2 113 f135_112 rfl rfl rfl ?_
  refine zw_laload 3 0 114 f135_113 rfl (zg_ne rfl (zg_ne rfl (zg_ne rfl (zg_ne rfl (zg_ne rfl (zg_ne rfl (zg_ne rfl (mb_63 x)))))))) (by decide +kernel) (by decide +kernel) (by decide +kernel) rfl ?_
  refine zw_aload_n 115 f135_114 rfl rfl ?_
  refine zw_getfield 118 f135_115 rfl g135_161_12 (zg_eq (zg_ne rfl (zg_ne rfl (zg_ne rfl (zg_ne rfl (zg_ne rfl (zg_eq (mb_52 x)))))))) (zg_eq (zg_ne rfl rfl)) ?_
  refine zw_ldiv 0 119 f135_118 rfl (by decide +kernel) (by decide +kernel) ?_
  refine zw_lastoreS 3 120 f135_119 rfl (zg_ne rfl (zg_ne rfl (zg_ne rfl (zg_ne rfl (zg_ne rfl (zg_ne rfl (zg_ne rfl (mb_63 x)))))))) (by decide +kernel) (by decide +kernel) (by decide +kernel) rfl ?_
  refine zw_iinc 4 [(1, .int 4), (0, .ref 52)] 123 f135_120 rfl rfl (by decide +kernel) (by decide +kernel) rfl ?_
  refine zw_goto 101 f135_123 (by decide +kernel) ?_
  refine zw_iload_n 102 f135_101 rfl rfl ?_
  refine zw_bipush 8 104 f135_102 rfl (by decide +kernel) ?_
  refine zw_ic_ge_f 107 126 f135_104 (by decide +kernel) rfl (by decide +kernel) ?_
  refine zw_aload_n 108 f135_107 rfl rfl ?_
  refine zw_getfield 111 f135_108 rfl g135_44_12 (zg_eq (zg_ne rfl (zg_ne rfl (zg_ne rfl (zg_ne rfl (zg_ne rfl (zg_eq (mb_52 x)))))))) (zg_ne rfl (zg_ne rfl rfl)) ?_
  refine zw_iload_n 112 f135_111 rfl rfl ?_
  refine zw_dup2 113 f135_112 rfl rfl rfl ?_
  refine zw_laload 4 0 114 f135_113 rfl (zg_ne rfl (zg_ne rfl (zg_ne rfl (zg_ne rfl (zg_ne rfl (zg_ne rfl (zg_ne rfl (mb_63 x)))))))) (by decide +kernel) (by decide +kernel) (by decide +kernel) rfl ?_
  refine zw_aload_n 115 f135_114 rfl rfl ?_
  refine zw_getfield 118 f135_115 rfl g135_161_12 (zg_eq (zg_ne rfl (zg_ne rfl (zg_ne rfl (zg_ne rfl (zg_ne rfl (zg_eq (mb_52 x)))))))) (zg_eq (zg_ne rfl rfl)) ?_
  refine zw_ldiv 0 119 f135_118 rfl (by decide +kernel) (by decide +kernel) ?_
  refine zw_lastoreS 4 120 f135_119 rfl (zg_ne rfl (zg_ne rfl (zg_ne rfl (zg_ne rfl (zg_ne rfl (zg_ne rfl (zg_ne rfl (mb_63 x)))))))) (by decide +kernel) (by decide +kernel) (by decide +kernel) rfl ?_
  refine zw_iinc 5 [(1, .int 5), (0, .ref 52)] 123 f135_120 rfl rfl (by decide +kernel) (by decide +kernel) rfl ?_
  refine zw_goto 101 f135_123 (by decide +kernel) ?_
  refine zw_iload_n 102 f135_101 rfl rfl ?_
  refine zw_bipush 8 104 f135_102 rfl (by decide +kernel) ?_
  refine zw_ic_ge_f 107 126 f135_104 (by decide +kernel) rfl (by decide +kernel) ?_
  refine zw_aload_n 108 f135_107 rfl rfl ?_
  refine zw_getfield 111 f135_108 rfl g135_44_12 (zg_eq (zg_ne rfl (zg_ne rfl (zg_ne rfl (zg_ne rfl (zg_ne rfl (zg_eq (mb_52 x)))))))) (zg_ne rfl (zg_ne rfl rfl)) ?_
  refine zw_iload_n 112 f135_111 rfl rfl ?_
  refine zw_dup2 113 f135_112 rfl rfl rfl ?_
  refine zw_laload 5 0 114 f135_113 rfl (zg_ne rfl (zg_ne rfl (zg_ne rfl (zg_ne rfl (zg_ne rfl (zg_ne rfl (zg_ne rfl (mb_63 x)))))))) (by decide +kernel) (by decide +kernel) (by decide +kernel) rfl ?_
  refine zw_aload_n 115 f135_114 rfl rfl ?_
  refine zw_getfield 118 f135_115 rfl g135_161_12 (zg_eq (zg_ne rfl (zg_ne rfl (zg_ne rfl (zg_ne rfl (zg_ne rfl (zg_eq (mb_52 x)))))))) (zg_eq (zg_ne rfl rfl)) ?_
  refine zw_ldiv 0 119 f135_118 rfl (by decide +kernel) (by decide +kernel) ?_
  refine zw_lastoreS 5 120 f135_119 rfl (zg_ne rfl (zg_ne rfl (zg_ne rfl (zg_ne rfl (zg_ne rfl (zg_ne rfl (zg_ne rfl (mb_63 x)))))))) (by decide +kernel) (by decide +kernel) (by decide +kernel) rfl ?_
  refine zw_iinc 6 [(1, .int 6), (0, .ref 52)] 123 f135_120 rfl rfl (by decide +kernel) (by decide +kernel) rfl ?_
  refine zw_goto 101 f135_123 (by decide +kernel) ?_
  refine zw_iload_n 102 f135_101 rfl rfl ?_
  refine zw_bipush 8 104 f135_102 rfl (by decide +kernel) ?_
  refine zw_ic_ge_f 107 126 f135_104 (by decide +kernel) rfl (by decide +kernel) ?_
  refine zw_aload_n 108 f135_107 rfl rfl ?_
  refine zw_getfield 111 f135_108 rfl g135_44_12 (zg_eq (zg_ne rfl (zg_ne rfl (zg_ne rfl (zg_ne rfl (zg_ne rfl (zg_eq (mb_52 x)))))))) (zg_ne rfl (zg_ne rfl rfl)) ?_
  refine zw_iload_n 112 f135_111 rfl rfl ?_
  refine zw_dup2 113 f135_112 rfl rfl rfl ?_
  refine zw_laload 6 0 114 f135_113 rfl (zg_ne rfl (zg_ne rfl (zg_ne rfl (zg_ne rfl (zg_ne rfl (zg_ne rfl (zg_ne rfl (mb_63 x)))))))) (by decide +kernel) (by decide +kernel) (by decide +kernel) rfl ?_
  refine zw_aload_n 115 f135_114 rfl rfl ?_
  refine zw_getfield 118 f135_115 rfl g135_161_12 (zg_eq (zg_ne rfl (zg_ne rfl (zg_ne rfl (zg_ne rfl (zg_ne rfl (zg_eq (mb_52 x)))))))) (zg_eq (zg_ne rfl rfl)) ?_
  refine zw_ldiv 0 119 f135_118 rfl (by decide +kernel) (by decide +kernel) ?_
  refine zw_lastoreS 6 120 f135_119 rfl (zg_ne rfl (zg_ne rfl (zg_ne rfl (zg_ne rfl (zg_ne rfl (zg_ne rfl (zg_ne rfl (mb_63 x)))))))) (by decide +kernel) (by decide +kernel) (by decide +kernel) rfl ?_
  refine zw_iinc 7 [(1, .int 7), (0, .ref 52)] 123 f135_120 rfl rfl (by decide +kernel) (by decide +kernel) rfl ?_
  refine zw_goto 101 f135_123 (by decide +kernel) ?_
  refine zw_iload_n 102 f135_101 rfl rfl ?_
  refine zw_bipush 8 104 f135_102 rfl (by decide +kernel) ?_
  refine zw_ic_ge_f 107 126 f135_104 (by decide +kernel) rfl (by decide +kernel) ?_
  refine zw_aload_n 108 f135_107 rfl rfl ?_
  refine zw_getfield 111 f135_108 rfl g135_44_12 (zg_eq (zg_ne rfl (zg_ne rfl (zg_ne rfl (zg_ne rfl (zg_ne rfl (zg_eq (mb_52 x)))))))) (zg_ne rfl (zg_ne rfl rfl)) ?_
  refine zw_iload_n 112 f135_111 rfl rfl ?_
  refine zw_dup2 113 f135_112 rfl rfl rfl ?_
  refine zw_laload 7 0 114 f135_113 rfl (zg_ne rfl (zg_ne rfl (zg_ne rfl (zg_ne rfl (zg_ne rfl (zg_ne rfl (zg_ne rfl (mb_63 x)))))))) (by decide +kernel) (by decide +kernel) (by decide +kernel) rfl ?_
  refine zw_aload_n 115 f135_114 rfl rfl ?_
  refine zw_getfield 118 f135_115 rfl g135_161_12 (zg_eq (zg_ne rfl (zg_ne rfl (zg_ne rfl (zg_ne rfl (zg_ne rfl (zg_eq (mb_52 x)))))))) (zg_eq (zg_ne rfl rfl)) ?_
  refine zw_ldiv 0 119 f135_118 rfl (by decide +kernel) (by decide +kernel) ?_
  refine zw_lastoreS 7 120 f135_119 rfl (zg_ne rfl (zg_ne rfl (zg_ne rfl (zg_ne rfl (zg_ne rfl (zg_ne rfl (zg_ne rfl (mb_63 x)))))))) (by decide +kernel) (by decide +kernel) (by decide +kernel) rfl ?_
  refine zw_iinc 8 [(1, .int 8), (0, .ref 52)] 123 f135_120 rfl rfl (by decide +kernel) (by decide +kernel) rfl ?_
  refine zw_goto 101 f135_123 (by decide +kernel) ?_
  refine zw_iload_n 102 f135_101 rfl rfl ?_
  refine zw_bipush 8 104 f135_102 rfl (by decide +kernel) ?_
  refine zw_ic_ge_t 126 f135_104 (by decide +kernel) (by decide +kernel) ?_
  refine zw_aload_n 127 f135_126 rfl rfl ?_
  refine zw_dup 128 f135_127 rfl rfl ?_
  refine zw_getfield 131 f135_128 rfl g135_40_12 (zg_eq (zg_ne rfl (zg_ne rfl (zg_ne rfl (zg_ne rfl (zg_ne rfl (zg_eq (mb_52 x)))))))) (zg_ne rfl (zg_ne rfl rfl)) ?_
  refine zw_aload_n 132 f135_131 rfl rfl ?_
  refine zw_getfield 135 f135_132 rfl g135_161_12 (zg_eq (zg_ne rfl (zg_ne rfl (zg_ne rfl (zg_ne rfl (zg_ne rfl (zg_eq (mb_52 x)))))))) (zg_eq (zg_ne rfl rfl)) ?_
  refine zw_ldiv 1 136 f135_135 rfl (by decide +kernel) (by decide +kernel) ?_
  refine zw_putfieldS 139 f135_136 rfl g135_40_12 (zg_eq (zg_ne rfl (zg_ne rfl (zg_ne rfl (zg_ne rfl (zg_ne rfl (zg_eq (mb_52 x)))))))) rfl (zg_ne rfl (zg_ne rfl rfl)) (by decide +kernel) ?_
  refine zw_vreturn f135_139 r135 u135 ⟨rfl, ?_⟩
  refine zw_vreturn f138_238 r138 u138 ⟨rfl, ?_⟩
  refine zw_aload_n 5 f140_4 rfl rfl ?_
  refine zw_iload_n 6 f140_5 rfl rfl ?_
  refine zw_virtual_i 9 0 0 [.ref 52, .int 0] [(0, .ref 52), (1, .int 0)] f140_6 rfl n140_205 k140_205_12 rfl (zg_eq (zg_ne rfl (zg_ne rfl (zg_ne rfl (zg_ne rfl (zg_ne rfl (zg_eq (mb_52 x)))))))) (by decide +kernel) (Nat.le_of_ble_eq_true rfl) rfl rfl (by decide +kernel) (by decide +kernel) rfl (Nat.le_of_ble_eq_true rfl) rfl ?_
  refine zw_aload_n 1 f122_0 rfl rfl ?_
  refine zw_iconst 0 2 f122_1 rfl (by decide +kernel) ?_
  refine zw_putfieldS 5 f122_2 rfl g122_111_12 (zg_eq (zg_ne rfl (zg_ne rfl (zg_ne rfl (zg_ne rfl (zg_ne rfl (zg_eq (mb_52 x)))))))) rfl (zg_ne rfl (zg_ne rfl rfl)) (by decide +kernel) ?_
  refine zw_iload_n 6 f122_5 rfl rfl ?_
  refine zw_ireturn f122_6 r122 u122 ⟨_, rfl, ?_⟩
  refine zw_ireturn f140_9 r140 u140 ⟨_, rfl, ?_⟩
  refine zw_ireturn f141_123 r141 u141 ?_
  exact rfl
set_option maxRecDepth 100000 in
set_option maxHeartbeats 0 in
theorem m_vessel_k3 (ro : UInt32 → Nat × (Nat → Int32)) (x : Nat → va_E) (b : Int32) (h3 : ¬ b < 1) (h4 : ¬ 200 < b) : zWp ro 141 0 [(0, .ref 52), (1, .int 3), (2, .int b)] [] (hMx x) 0 0 (fun r _ => r = some (.int 0)) := by
  refine zw_iload_n 1 f141_0 rfl rfl ?_
  refine zw_iconst 0 2 f141_1 rfl (by decide +kernel) ?_
  refine zw_iconst 4 3 f141_2 rfl (by decide +kernel) ?_
  refine zw_static_i 6 0 0 [.int 3, .int 0, .int 4] [] [(0, .int 3), (1, .int 0), (2, .int 4)] f141_3 rfl k141_117_99 rfl (by decide +kernel) (Nat.le_of_ble_eq_true rfl) (Nat.le_of_ble_eq_true rfl) rfl rfl (by decide +kernel) (by decide +kernel) rfl (Nat.le_of_ble_eq_true rfl) rfl ?_
  refine zw_iload_n 1 f120_0 rfl rfl ?_
  refine zw_iload_n 2 f120_1 rfl rfl ?_
  refine zw_ic_lt_f 5 14 f120_2 (by decide +kernel) rfl (by decide +kernel) ?_
  refine zw_iload_n 6 f120_5 rfl rfl ?_
  refine zw_iload_n 7 f120_6 rfl rfl ?_
  refine zw_ic_gt_f 10 14 f120_7 (by decide +kernel) rfl (by decide +kernel) ?_
  refine zw_iconst 1 11 f120_10 rfl (by decide +kernel) ?_
  refine zw_goto 15 f120_11 (by decide +kernel) ?_
  refine zw_zreturn f120_15 r120 u120 (by decide +kernel) ⟨_, rfl, ?_⟩
  refine zw_if_eq_f 9 20 f141_6 (by decide +kernel) rfl (by decide +kernel) ?_
  refine zw_iload_n 10 f141_9 rfl rfl ?_
  refine zw_iconst 1 11 f141_10 rfl (by decide +kernel) ?_
  refine zw_sipush 200 14 f141_11 rfl (by decide +kernel) ?_
  refine zw_static_i 17 0 0 [.int b, .int 1, .int 200] [] [(0, .int b), (1, .int 1), (2, .int 200)] f141_14 rfl k141_117_99 rfl (by decide +kernel) (Nat.le_of_ble_eq_true rfl) (Nat.le_of_ble_eq_true rfl) rfl rfl (by decide +kernel) (by decide +kernel) rfl (Nat.le_of_ble_eq_true rfl) rfl ?_
  refine zw_iload_n 1 f120_0 rfl rfl ?_
  refine zw_iload_n 2 f120_1 rfl rfl ?_
  refine zw_ic_lt_f 5 14 f120_2 (by decide +kernel) rfl h3 ?_
  refine zw_iload_n 6 f120_5 rfl rfl ?_
  refine zw_iload_n 7 f120_6 rfl rfl ?_
  refine zw_ic_gt_f 10 14 f120_7 (by decide +kernel) rfl h4 ?_
  refine zw_iconst 1 11 f120_10 rfl (by decide +kernel) ?_
  refine zw_goto 15 f120_11 (by decide +kernel) ?_
  refine zw_zreturn f120_15 r120 u120 (by decide +kernel) ⟨_, rfl, ?_⟩
  refine zw_if_ne_t 26 f141_17 (by decide +kernel) (by decide +kernel) ?_
  refine zw_aload_n 27 f141_26 rfl rfl ?_
  refine zw_getfield 30 f141_27 rfl g141_114_12 (mb_52 x) rfl ?_
  refine zw_bipush 8 32 f141_30 rfl (by decide +kernel) ?_
  refine zw_ic_ne_t 41 f141_32 (by decide +kernel) (by decide +kernel) ?_
  refine zw_aload_n 42 f141_41 rfl rfl ?_
  refine zw_getfield 45 f141_42 rfl g141_114_12 (mb_52 x) rfl ?_
  refine zw_istore_n [(3, .int 0), (0, .ref 52), (1, .int 3), (2, .int b)] 46 f141_45 rfl (by decide +kernel) rfl ?_
  refine zw_aload_n 47 f141_46 rfl rfl ?_
  refine zw_dup 48 f141_47 rfl rfl ?_
  refine zw_getfield 51 f141_48 rfl g141_114_12 (mb_52 x) rfl ?_
  refine zw_iconst 1 52 f141_51 rfl (by decide +kernel) ?_
  refine zw_iadd 1 53 f141_52 rfl (by decide +kernel) ?_
  refine zw_putfield 56 f141_53 rfl g141_114_12 (mb_52 x) rfl (zg_lt rfl) (by decide +kernel) ?_
  refine zw_aload_n 57 f141_56 rfl rfl ?_
  refine zw_getfield 60 f141_57 rfl g141_7_12 (zg_eq (mb_52 x)) (zg_ne rfl rfl) ?_
  refine zw_iload_n 61 f141_60 rfl rfl ?_
  refine zw_iload_n 62 f141_61 rfl rfl ?_
  refine zw_iastore 0 63 f141_62 rfl (zg_ne rfl (mb_53 x)) (by decide +kernel) (by decide +kernel) (by decide +kernel) ?_
  refine zw_aload_n 64 f141_63 rfl rfl ?_
  refine zw_getfield 67 f141_64 rfl g141_13_12 (zg_ne rfl (zg_eq (mb_52 x))) (zg_ne rfl rfl) ?_
  refine zw_iload_n 68 f141_67 rfl rfl ?_
  refine zw_iload_n 69 f141_68 rfl rfl ?_
  refine zw_iastore 0 70 f141_69 rfl (zg_ne rfl (zg_ne rfl (mb_54 x))) (by decide +kernel) (by decide +kernel) (by decide +kernel) ?_
  refine zw_aload_n 71 f141_70 rfl rfl ?_
  refine zw_getfield 74 f141_71 rfl g141_16_12 (zg_ne rfl (zg_ne rfl (zg_eq (mb_52 x)))) (zg_ne rfl rfl) ?_
  refine zw_iload_n 75 f141_74 rfl rfl ?_
  refine zw_iload_n 76 f141_75 rfl rfl ?_
  refine zw_if_eq_f 79 84 f141_76 (by decide +kernel) rfl (by decide +kernel) ?_
  refine zw_iload_n 80 f141_79 rfl rfl ?_
  refine zw_iconst 2 81 f141_80 rfl (by decide +kernel) ?_
  refine zw_ic_ne_t 88 f141_81 (by decide +kernel) (by decide +kernel) ?_
  refine zw_iload_n 89 f141_88 rfl rfl ?_
  refine zw_iastore 0 90 f141_89 rfl (zg_ne rfl (zg_ne rfl (zg_ne rfl (mb_55 x)))) (by decide +kernel) (by decide +kernel) (by decide +kernel) ?_
  refine zw_aload_n 91 f141_90 rfl rfl ?_
  refine zw_getfield 94 f141_91 rfl g141_19_12 (zg_ne rfl (zg_ne rfl (zg_ne rfl (zg_eq (mb_52 x))))) (zg_ne rfl rfl) ?_
  refine zw_iload_n 95 f141_94 rfl rfl ?_
  refine zw_iconst 0 96 f141_95 rfl (by decide +kernel) ?_
  refine zw_iastoreS 0 97 f141_96 rfl (zg_ne rfl (zg_ne rfl (zg_ne rfl (zg_ne rfl (mb_56 x))))) (by decide +kernel) (by decide +kernel) (by decide +kernel) rfl ?_
  refine zw_aload_n 98 f141_97 rfl rfl ?_
  refine zw_getfield 101 f141_98 rfl g141_22_12 (zg_ne rfl (zg_ne rfl (zg_ne rfl (zg_eq (mb_52 x))))) (zg_ne rfl rfl) ?_
  refine zw_iload_n 102 f141_101 rfl rfl ?_
  refine zw_iconst (-1) 103 f141_102 rfl (by decide +kernel) ?_
  refine zw_iastore 0 104 f141_103 rfl (zg_ne rfl (zg_ne rfl (zg_ne rfl (zg_ne rfl (mb_57 x))))) (by decide +kernel) (by decide +kernel) (by decide +kernel) ?_
  refine zw_aload_n 105 f141_104 rfl rfl ?_
  refine zw_getfield 108 f141_105 rfl g141_25_12 (zg_ne rfl (zg_ne rfl (zg_ne rfl (zg_ne rfl (zg_eq (mb_52 x)))))) (zg_ne rfl rfl) ?_
  refine zw_iload_n 109 f141_108 rfl rfl ?_
  refine zw_iconst (-1) 110 f141_109 rfl (by decide +kernel) ?_
  refine zw_iastore 0 111 f141_110 rfl (zg_ne rfl (zg_ne rfl (zg_ne rfl (zg_ne rfl (zg_ne rfl (mb_58 x)))))) (by decide +kernel) (by decide +kernel) (by decide +kernel) ?_
  refine zw_aload_n 112 f141_111 rfl rfl ?_
  refine zw_getfield 115 f141_112 rfl g141_28_12 (zg_ne rfl (zg_ne rfl (zg_ne rfl (zg_ne rfl (zg_ne rfl (zg_eq (mb_52 x))))))) (zg_ne rfl rfl) ?_
  refine zw_iload_n 116 f141_115 rfl rfl ?_
  refine zw_iconst (-1) 117 f141_116 rfl (by decide +kernel) ?_
  refine zw_iastore 0 118 f141_117 rfl (zg_ne rfl (zg_ne rfl (zg_ne rfl (zg_ne rfl (zg_ne rfl (zg_ne rfl (mb_59 x))))))) (by decide +kernel) (by decide +kernel) (by decide +kernel) ?_
  refine zw_aload_n 119 f141_118 rfl rfl ?_
  refine zw_iload_n 120 f141_119 rfl rfl ?_
  refine zw_virtual_i 123 0 0 [.ref 52, .int 0] [(0, .ref 52), (1, .int 0)] f141_120 rfl n141_212 k141_212_12 rfl (zg_ne rfl (zg_ne rfl (zg_ne rfl (zg_ne rfl (zg_ne rfl (zg_ne rfl (zg_eq (mb_52 x)))))))) (by decide +kernel) (Nat.le_of_ble_eq_true rfl) rfl rfl (by decide +kernel) (by decide +kernel) rfl (Nat.le_of_ble_eq_true rfl) rfl ?_
  refine zw_aload_n 1 f140_0 rfl rfl ?_
  refine zw_virtual_v 4 0 0 [.ref 52] [(0, .ref 52)] f140_1 rfl n140_202 k140_202_12 rfl (zg_ne rfl (zg_ne rfl (zg_ne rfl (zg_ne rfl (zg_ne rfl (zg_ne rfl (zg_eq (mb_52 x)))))))) (by decide +kernel) (Nat.le_of_ble_eq_true rfl) rfl rfl (by decide +kernel) (by decide +kernel) rfl (Nat.le_of_ble_eq_true rfl) rfl ?_
  refine zw_iconst 0 1 f138_0 rfl (by decide +kernel) ?_
  refine zw_istore_n [(1, .int 0), (0, .ref 52)] 2 f138_1 rfl (by decide +kernel) rfl ?_
  refine zw_iload_n 3 f138_2 rfl rfl ?_
  refine zw_aload_n 4 f138_3 rfl rfl ?_
  refine zw_getfield 7 f138_4 rfl g138_114_12 (zg_ne rfl (zg_ne rfl (zg_ne rfl (zg_ne rfl (zg_ne rfl (zg_ne rfl (zg_eq (mb_52 x)))))))) (zg_eq rfl) ?_
  refine zw_ic_ge_f 10 79 f138_7 (by decide +kernel) rfl (by decide +kernel) ?_
  refine zw_aload_n 11 f138_10 rfl rfl ?_
  refine zw_getfield 14 f138_11 rfl g138_7_12 (zg_ne rfl (zg_ne rfl (zg_ne rfl (zg_ne rfl (zg_ne rfl (zg_ne rfl (zg_eq (mb_52 x)))))))) (zg_ne rfl rfl) ?_
  refine zw_iload_n 15 f138_14 rfl rfl ?_
  refine zw_iaload 0 3 16 f138_15 rfl (zg_ne rfl (zg_ne rfl (zg_ne rfl (zg_ne rfl (zg_ne rfl (zg_eq (zg_ne rfl (mb_53 x)))))))) (by decide +kernel) (by decide +kernel) (by decide +kernel) rfl ?_
  refine zw_iconst 2 17 f138_16 rfl (by decide +kernel) ?_
  refine zw_ic_ne_t 73 f138_17 (by decide +kernel) (by decide +kernel) ?_
  refine zw_iinc 1 [(1, .int 1), (0, .ref 52)] 76 f138_73 rfl rfl (by decide +kernel) (by decide +kernel) rfl ?_
  refine zw_goto 2 f138_76 (by decide +kernel) ?_
  refine zw_iload_n 3 f138_2 rfl rfl ?_
  refine zw_aload_n 4 f138_3 rfl rfl ?_
  refine zw_getfield 7 f138_4 rfl g138_114_12 (zg_ne rfl (zg_ne rfl (zg_ne rfl (zg_ne rfl (zg_ne rfl (zg_ne rfl (zg_eq (mb_52 x)))))))) (zg_eq rfl) ?_
  refine zw_ic_ge_t 79 f138_7 (by decide +kernel) (by decide +kernel) ?_
  refine zw_iconst 0 80 f138_79 rfl (by decide +kernel) ?_
  refine zw_istore_n [(1, .int 0), (0, .ref 52)] 81 f138_80 rfl (by decide +kernel) rfl ?_
  refine zw_iload_n 82 f138_81 rfl rfl ?_
  refine zw_aload_n 83 f138_82 rfl rfl ?_
  refine zw_getfield 86 f138_83 rfl g138_114_12 (zg_ne rfl (zg_ne rfl (zg_ne rfl (zg_ne rfl (zg_ne rfl (zg_ne rfl (zg_eq (mb_52 x)))))))) (zg_eq rfl) ?_
  refine zw_ic_ge_f 89 195 f138_86 (by decide +kernel) rfl (by decide +kernel) ?_
  refine zw_aload_n 90 f138_89 rfl rfl ?_
  refine zw_getfield 93 f138_90 rfl g138_7_12 (zg_ne rfl (zg_ne rfl (zg_ne rfl (zg_ne rfl (zg_ne rfl (zg_ne rfl (zg_eq (mb_52 x)))))))) (zg_ne rfl rfl) ?_
  refine zw_iload_n 94 f138_93 rfl rfl ?_
  refine zw_iaload 0 3 95 f138_94 rfl (zg_ne rfl (zg_ne rfl (zg_ne rfl (zg_ne rfl (zg_ne rfl (zg_eq (zg_ne rfl (mb_53 x)))))))) (by decide +kernel) (by decide +kernel) (by decide +kernel) rfl ?_
  refine zw_iconst 1 96 f138_95 rfl (by decide +kernel) ?_
  refine zw_ic_ne_t 146 f138_96 (by decide +kernel) (by decide +kernel) ?_
  refine zw_aload_n 147 f138_146 rfl rfl ?_
  refine zw_getfield 150 f138_147 rfl g138_7_12 (zg_ne rfl (zg_ne rfl (zg_ne rfl (zg_ne rfl (zg_ne rfl (zg_ne rfl (zg_eq (mb_52 x)))))))) (zg_ne rfl rfl) ?_
  refine zw_iload_n 151 f138_150 rfl rfl ?_
  refine zw_iaload 0 3 152 f138_151 rfl (zg_ne rfl (zg_ne rfl (zg_ne rfl (zg_ne rfl (zg_ne rfl (zg_eq (zg_ne rfl (mb_53 x)))))))) (by decide +kernel) (by decide +kernel) (by decide +kernel) rfl ?_
  refine zw_iconst 1 153 f138_152 rfl (by decide +kernel) ?_
  refine zw_ic_ne_t 189 f138_153 (by decide +kernel) (by decide +kernel) ?_
  refine zw_iinc 1 [(1, .int 1), (0, .ref 52)] 192 f138_189 rfl rfl (by decide +kernel) (by decide +kernel) rfl ?_
  refine zw_goto 81 f138_192 (by decide +kernel) ?_
  refine zw_iload_n 82 f138_81 rfl rfl ?_
  refine zw_aload_n 83 f138_82 rfl rfl ?_
  refine zw_getfield 86 f138_83 rfl g138_114_12 (zg_ne rfl (zg_ne rfl (zg_ne rfl (zg_ne rfl (zg_ne rfl (zg_ne rfl (zg_eq (mb_52 x)))))))) (zg_eq rfl) ?_
  refine zw_ic_ge_t 195 f138_86 (by decide +kernel) (by decide +kernel) ?_
  refine zw_iconst 0 196 f138_195 rfl (by decide +kernel) ?_
  refine zw_istore_n [(1, .int 0), (0, .ref 52)] 197 f138_196 rfl (by decide +kernel) rfl ?_
  refine zw_iload_n 198 f138_197 rfl rfl ?_
  refine zw_aload_n 199 f138_198 rfl rfl ?_
  refine zw_getfield 202 f138_199 rfl g138_114_12 (zg_ne rfl (zg_ne rfl (zg_ne rfl (zg_ne rfl (zg_ne rfl (zg_ne rfl (zg_eq (mb_52 x)))))))) (zg_eq rfl) ?_
  refine zw_ic_ge_f 205 234 f138_202 (by decide +kernel) rfl (by decide +kernel) ?_
  refine zw_aload_n 206 f138_205 rfl rfl ?_
  refine zw_iload_n 207 f138_206 rfl rfl ?_
  refine zw_virtual_i 210 0 0 [.ref 52, .int 0] [(0, .ref 52), (1, .int 0)] f138_207 rfl n138_158 k138_158_12 rfl (zg_ne rfl (zg_ne rfl (zg_ne rfl (zg_ne rfl (zg_ne rfl (zg_ne rfl (zg_eq (mb_52 x)))))))) (by decide +kernel) (Nat.le_of_ble_eq_true rfl) rfl rfl (by decide +kernel) (by decide +kernel) rfl (Nat.le_of_ble_eq_true rfl) rfl ?_
  refine zw_aload_n 1 f126_0 rfl rfl ?_
  refine zw_getfield 4 f126_1 rfl g126_7_12 (zg_ne rfl (zg_ne rfl (zg_ne rfl (zg_ne rfl (zg_ne rfl (zg_ne rfl (zg_eq (mb_52 x)))))))) (zg_ne rfl rfl) ?_
  refine zw_iload_n 5 f126_4 rfl rfl ?_
  refine zw_iaload 0 3 6 f126_5 rfl (zg_ne rfl (zg_ne rfl (zg_ne rfl (zg_ne rfl (zg_ne rfl (zg_eq (zg_ne rfl (mb_53 x)))))))) (by decide +kernel) (by decide +kernel) (by decide +kernel) rfl ?_
  refine zw_iconst 3 7 f126_6 rfl (by decide +kernel) ?_
  refine zw_ic_eq_t 20 f126_7 (by decide +kernel) (by decide +kernel) ?_
  refine zw_iconst 1 21 f126_20 rfl (by decide +kernel) ?_
  refine zw_goto 25 f126_21 (by decide +kernel) ?_
  refine zw_zreturn f126_25 r126 u126 (by decide +kernel) ⟨_, rfl, ?_⟩
  refine zw_if_eq_f 213 228 f138_210 (by decide +kernel) rfl (by decide +kernel) ?_
  refine zw_aload_n 214 f138_213 rfl rfl ?_
  refine zw_getfield 217 f138_214 rfl g138_22_12 (zg_ne rfl (zg_ne rfl (zg_ne rfl (zg_ne rfl (zg_ne rfl (zg_ne rfl (zg_eq (mb_52 x)))))))) (zg_ne rfl rfl) ?_
  refine zw_iload_n 218 f138_217 rfl rfl ?_
  refine zw_iaload 0 (-1) 219 f138_218 rfl (zg_ne rfl (zg_ne rfl (zg_eq (zg_ne rfl (zg_ne rfl (zg_ne rfl (zg_ne rfl (mb_57 x)))))))) (by decide +kernel) (by decide +kernel) (by decide +kernel) rfl ?_
  refine zw_iconst (-1) 220 f138_219 rfl (by decide +kernel) ?_
  refine zw_ic_eq_t 228 f138_220 (by decide +kernel) (by decide +kernel) ?_
  refine zw_iinc 1 [(1, .int 1), (0, .ref 52)] 231 f138_228 rfl rfl (by decide +kernel) (by decide +kernel) rfl ?_
  refine zw_goto 197 f138_231 (by decide +kernel) ?_
  refine zw_iload_n 198 f138_197 rfl rfl ?_
  refine zw_aload_n 199 f138_198 rfl rfl ?_
  refine zw_getfield 202 f138_199 rfl g138_114_12 (zg_ne rfl (zg_ne rfl (zg_ne rfl (zg_ne rfl (zg_ne rfl (zg_ne rfl (zg_eq (mb_52 x)))))))) (zg_eq rfl) ?_
  refine zw_ic_ge_t 234 f138_202 (by decide +kernel) (by decide +kernel) ?_
  refine zw_aload_n 235 f138_234 rfl rfl ?_
  refine zw_virtual_v 238 0 0 [.ref 52] [(0, .ref 52)] f138_235 rfl n138_199 k138_199_12 rfl (zg_ne rfl (zg_ne rfl (zg_ne rfl (zg_ne rfl (zg_ne rfl (zg_ne rfl (zg_eq (mb_52 x)))))))) (by decide +kernel) (Nat.le_of_ble_eq_true rfl) rfl rfl (by decide +kernel) (by decide +kernel) rfl (Nat.le_of_ble_eq_true rfl) rfl ?_
  refine zw_aload_n 1 f135_0 rfl rfl ?_
  refine zw_aload_n 2 f135_1 rfl rfl ?_
  refine zw_getfield 5 f135_2 rfl g135_172_12 (zg_ne rfl (zg_ne rfl (zg_ne rfl (zg_ne rfl (zg_ne rfl (zg_ne rfl (zg_eq (mb_52 x)))))))) (zg_ne rfl rfl) ?_
  refine zw_aload_n 6 f135_5 rfl rfl ?_
  refine zw_getfield 9 f135_6 rfl g135_175_12 (zg_ne rfl (zg_ne rfl (zg_ne rfl (zg_ne rfl (zg_ne rfl (zg_ne rfl (zg_eq (mb_52 x)))))))) (zg_ne rfl rfl) ?_
  refine zw_aload_n 10 f135_9 rfl rfl ?_
  refine zw_getfield 13 f135_10 rfl g135_178_12 (zg_ne rfl (zg_ne rfl (zg_ne rfl (zg_ne rfl (zg_ne rfl (zg_ne rfl (zg_eq (mb_52 x)))))))) (zg_ne rfl rfl) ?_
  refine zw_aload_n 14 f135_13 rfl rfl ?_
  refine zw_getfield 17 f135_14 rfl g135_40_12 (zg_ne rfl (zg_ne rfl (zg_ne rfl (zg_ne rfl (zg_ne rfl (zg_ne rfl (zg_eq (mb_52 x)))))))) (zg_ne rfl rfl) ?_
  refine zw_static_l 20 0 0 [.long 0, .long 1] [.long 0, .long 0, .ref 52] [(0, .long 0), (2, .long 1)] f135_17 rfl k135_164_99 rfl (by decide +kernel) (Nat.le_of_ble_eq_true rfl) (Nat.le_of_ble_eq_true rfl) rfl rfl (by decide +kernel) (by decide +kernel) rfl (Nat.le_of_ble_eq_true rfl) rfl ?_
  refine zw_lload_n 1 f125_0 rfl rfl ?_
  refine zw_lconst 0 2 f125_1 rfl (by decide +kernel) ?_
  refine zw_lcmp 0 3 f125_2 rfl (by decide +kernel) ?_
  refine zw_if_ge_t 11 f125_3 (by decide +kernel) (by decide +kernel) ?_
  refine zw_lload_n 12 f125_11 rfl rfl ?_
  refine zw_lstore [(4, .long 0), (0, .long 0), (2, .long 1)] 14 f125_12 rfl (by decide +kernel) rfl ?_
  refine zw_lload_n 15 f125_14 rfl rfl ?_
  refine zw_lstore [(6, .long 1), (4, .long 0), (0, .long 0), (2, .long 1)] 17 f125_15 rfl (by decide +kernel) rfl ?_
  refine zw_lload 19 f125_17 rfl rfl ?_
  refine zw_lconst 0 20 f125_19 rfl (by decide +kernel) ?_
  refine zw_lcmp 1 21 f125_20 rfl (by decide +kernel) ?_
  refine zw_if_eq_f 24 42 f125_21 (by decide +kernel) rfl (by decide +kernel) ?_
  refine zw_lload 26 f125_24 rfl rfl ?_
  refine zw_lload 28 f125_26 rfl rfl ?_
  refine zw_lrem 0 29 f125_28 rfl (by decide +kernel) (by decide +kernel) ?_
  refine zw_lstore [(8, .long 0), (6, .long 1), (4, .long 0), (0, .long 0), (2, .long 1)] 31 f125_29 rfl (by decide +kernel) rfl ?_
  refine zw_lload 33 f125_31 rfl rfl ?_
  refine zw_lstore [(4, .long 1), (8, .long 0), (6, .long 1), (0, .long 0), (2, .long 1)] 35 f125_33 rfl (by decide +kernel) rfl ?_
  refine zw_lload 37 f125_35 rfl rfl ?_
  refine zw_lstore [(6, .long 0), (4, .long 1), (8, .long 0), (0, .long 0), (2, .long 1)] 39 f125_37 rfl (by decide +kernel) rfl ?_
  refine zw_goto 17 f125_39 (by decide +kernel) ?_
  refine zw_lload 19 f125_17 rfl rfl ?_
  refine zw_lconst 0 20 f125_19 rfl (by decide +kernel) ?_
  refine zw_lcmp 0 21 f125_20 rfl (by decide +kernel) ?_
  refine zw_if_eq_t 42 f125_21 (by decide +kernel) (by decide +kernel) ?_
  refine zw_lload 44 f125_42 rfl rfl ?_
  refine zw_lreturn f125_44 r125 u125 ⟨_, rfl, ?_⟩
  refine zw_static_l 23 0 0 [.long 0, .long 1] [.long 0, .ref 52] [(0, .long 0), (2, .long 1)] f135_20 rfl k135_164_99 rfl (by decide +kernel) (Nat.le_of_ble_eq_true rfl) (Nat.le_of_ble_eq_true rfl) rfl rfl (by decide +kernel) (by decide +kernel) rfl (Nat.le_of_ble_eq_true rfl) rfl ?_
  refine zw_lload_n 1 f125_0 rfl rfl ?_
  refine zw_lconst 0 2 f125_1 rfl (by decide +kernel) ?_
  refine zw_lcmp 0 3 f125_2 rfl (by decide +kernel) ?_
  refine zw_if_ge_t 11 f125_3 (by decide +kernel) (by decide +kernel) ?_
  refine zw_lload_n 12 f125_11 rfl rfl ?_
  refine zw_lstore [(4, .long 0), (0, .long 0), (2, .long 1)] 14 f125_12 rfl (by decide +kernel) rfl ?_
  refine zw_lload_n 15 f125_14 rfl rfl ?_
  refine zw_lstore [(6, .long 1), (4, .long 0), (0, .long 0), (2, .long 1)] 17 f125_15 rfl (by decide +kernel) rfl ?_
  refine zw_lload 19 f125_17 rfl rfl ?_
  refine zw_lconst 0 20 f125_19 rfl (by decide +kernel) ?_
  refine zw_lcmp 1 21 f125_20 rfl (by decide +kernel) ?_
  refine zw_if_eq_f 24 42 f125_21 (by decide +kernel) rfl (by decide +kernel) ?_
  refine zw_lload 26 f125_24 rfl rfl ?_
  refine zw_lload 28 f125_26 rfl rfl ?_
  refine zw_lrem 0 29 f125_28 rfl (by decide +kernel) (by decide +kernel) ?_
  refine zw_lstore [(8, .long 0), (6, .long 1), (4, .long 0), (0, .long 0), (2, .long 1)] 31 f125_29 rfl (by decide +kernel) rfl ?_
  refine zw_lload 33 f125_31 rfl rfl ?_
  refine zw_lstore [(4, .long 1), (8, .long 0), (6, .long 1), (0, .long 0), (2, .long 1)] 35 f125_33 rfl (by decide +kernel) rfl ?_
  refine zw_lload 37 f125_35 rfl rfl ?_
  refine zw_lstore [(6, .long 0), (4, .long 1), (8, .long 0), (0, .long 0), (2, .long 1)] 39 f125_37 rfl (by decide +kernel) rfl ?_
  refine zw_goto 17 f125_39 (by decide +kernel) ?_
  refine zw_lload 19 f125_17 rfl rfl ?_
  refine zw_lconst 0 20 f125_19 rfl (by decide +kernel) ?_
  refine zw_lcmp 0 21 f125_20 rfl (by decide +kernel) ?_
  refine zw_if_eq_t 42 f125_21 (by decide +kernel) (by decide +kernel) ?_
  refine zw_lload 44 f125_42 rfl rfl ?_
  refine zw_lreturn f125_44 r125 u125 ⟨_, rfl, ?_⟩
  refine zw_static_l 26 0 0 [.long 0, .long 1] [.ref 52] [(0, .long 0), (2, .long 1)] f135_23 rfl k135_164_99 rfl (by decide +kernel) (Nat.le_of_ble_eq_true rfl) (Nat.le_of_ble_eq_true rfl) rfl rfl (by decide +kernel) (by decide +kernel) rfl (Nat.le_of_ble_eq_true rfl) rfl ?_
  refine zw_lload_n 1 f125_0 rfl rfl ?_
  refine zw_lconst 0 2 f125_1 rfl (by decide +kernel) ?_
  refine zw_lcmp 0 3 f125_2 rfl (by decide +kernel) ?_
  refine zw_if_ge_t 11 f125_3 (by decide +kernel) (by decide +kernel) ?_
  refine zw_lload_n 12 f125_11 rfl rfl ?_
  refine zw_lstore [(4, .long 0), (0, .long 0), (2, .long 1)] 14 f125_12 rfl (by decide +kernel) rfl ?_
  refine zw_lload_n 15 f125_14 rfl rfl ?_
  refine zw_lstore [(6, .long 1), (4, .long 0), (0, .long 0), (2, .long 1)] 17 f125_15 rfl (by decide +kernel) rfl ?_
  refine zw_lload 19 f125_17 rfl rfl ?_
  refine zw_lconst 0 20 f125_19 rfl (by decide +kernel) ?_
  refine zw_lcmp 1 21 f125_20 rfl (by decide +kernel) ?_
  refine zw_if_eq_f 24 42 f125_21 (by decide +kernel) rfl (by decide +kernel) ?_
  refine zw_lload 26 f125_24 rfl rfl ?_
  refine zw_lload 28 f125_26 rfl rfl ?_
  refine zw_lrem 0 29 f125_28 rfl (by decide +kernel) (by decide +kernel) ?_
  refine zw_lstore [(8, .long 0), (6, .long 1), (4, .long 0), (0, .long 0), (2, .long 1)] 31 f125_29 rfl (by decide +kernel) rfl ?_
  refine zw_lload 33 f125_31 rfl rfl ?_
  refine zw_lstore [(4, .long 1), (8, .long 0), (6, .long 1), (0, .long 0), (2, .long 1)] 35 f125_33 rfl (by decide +kernel) rfl ?_
  refine zw_lload 37 f125_35 rfl rfl ?_
  refine zw_lstore [(6, .long 0), (4, .long 1), (8, .long 0), (0, .long 0), (2, .long 1)] 39 f125_37 rfl (by decide +kernel) rfl ?_
  refine zw_goto 17 f125_39 (by decide +kernel) ?_
  refine zw_lload 19 f125_17 rfl rfl ?_
  refine zw_lconst 0 20 f125_19 rfl (by decide +kernel) ?_
  refine zw_lcmp 0 21 f125_20 rfl (by decide +kernel) ?_
  refine zw_if_eq_t 42 f125_21 (by decide +kernel) (by decide +kernel) ?_
  refine zw_lload 44 f125_42 rfl rfl ?_
  refine zw_lreturn f125_44 r125 u125 ⟨_, rfl, ?_⟩
  refine zw_putfield 29 f135_26 rfl g135_161_12 (zg_ne rfl (zg_ne rfl (zg_ne rfl (zg_ne rfl (zg_ne rfl (zg_ne rfl (zg_eq (mb_52 x)))))))) rfl (zg_lt (zg_ne rfl rfl)) (by decide +kernel) ?_
  refine zw_iconst 0 30 f135_29 rfl (by decide +kernel) ?_
  refine zw_istore_n [(1, .int 0), (0, .ref 52)] 31 f135_30 rfl (by decide +kernel) rfl ?_
  refine zw_iload_n 32 f135_31 rfl rfl ?_
  refine zw_bipush 8 34 f135_32 rfl (by decide +kernel) ?_
  refine zw_ic_ge_f 37 60 f135_34 (by decide +kernel) rfl (by decide +kernel) ?_
  refine zw_aload_n 38 f135_37 rfl rfl ?_
  refine zw_aload_n 39 f135_38 rfl rfl ?_
  refine zw_getfield 42 f135_39 rfl g135_44_12 (zg_eq (zg_ne rfl (zg_ne rfl (zg_ne rfl (zg_ne rfl (zg_ne rfl (zg_ne rfl (zg_eq (mb_52 x))))))))) (zg_ne rfl (zg_ne rfl rfl)) ?_
  refine zw_iload_n 43 f135_42 rfl rfl ?_
  refine zw_laload 0 0 44 f135_43 rfl (zg_ne rfl (zg_ne rfl (zg_ne rfl (zg_ne rfl (zg_ne rfl (zg_ne rfl (zg_ne rfl (zg_ne rfl (mb_63 x))))))))) (by decide +kernel) (by decide +kernel) (by decide +kernel) rfl ?_
  refine zw_aload_n 45 f135_44 rfl rfl ?_
  refine zw_getfield 48 f135_45 rfl g135_161_12 (zg_eq (zg_ne rfl (zg_ne rfl (zg_ne rfl (zg_ne rfl (zg_ne rfl (zg_ne rfl (zg_eq (mb_52 x))))))))) (zg_eq (zg_ne rfl rfl)) ?_
  refine zw_static_l 51 0 0 [.long 0, .long 1] [.ref 52] [(0, .long 0), (2, .long 1)] f135_48 rfl k135_164_99 rfl (by decide +kernel) (Nat.le_of_ble_eq_true rfl) (Nat.le_of_ble_eq_true rfl) rfl rfl (by decide +kernel) (by decide +kernel) rfl (Nat.le_of_ble_eq_true rfl) rfl ?_
  refine zw_lload_n 1 f125_0 rfl rfl ?_
  refine zw_lconst 0 2 f125_1 rfl (by decide +kernel) ?_
  refine zw_lcmp 0 3 f125_2 rfl (by decide +kernel) ?_
  refine zw_if_ge_t 11 f125_3 (by decide +kernel) (by decide +kernel) ?_
  refine zw_lload_n 12 f125_11 rfl rfl ?_
  refine zw_lstore [(4, .long 0), (0, .long 0), (2, .long 1)] 14 f125_12 rfl (by decide +kernel) rfl ?_
  refine zw_lload_n 15 f125_14 rfl rfl ?_
  refine zw_lstore [(6, .long 1), (4, .long 0), (0, .long 0), (2, .long 1)] 17 f125_15 rfl (by decide +kernel) rfl ?_
  refine zw_lload 19 f125_17 rfl rfl ?_
  refine zw_lconst 0 20 f125_19 rfl (by decide +kernel) ?_
  refine zw_lcmp 1 21 f125_20 rfl (by decide +kernel) ?_
  refine zw_if_eq_f 24 42 f125_21 (by decide +kernel) rfl (by decide +kernel) ?_
  refine zw_lload 26 f125_24 rfl rfl ?_
  refine zw_lload 28 f125_26 rfl rfl ?_
  refine zw_lrem 0 29 f125_28 rfl (by decide +kernel) (by decide +kernel) ?_
  refine zw_lstore [(8, .long 0), (6, .long 1), (4, .long 0), (0, .long 0), (2, .long 1)] 31 f125_29 rfl (by decide +kernel) rfl ?_
  refine zw_lload 33 f125_31 rfl rfl ?_
  refine zw_lstore [(4, .long 1), (8, .long 0), (6, .long 1), (0, .long 0), (2, .long 1)] 35 f125_33 rfl (by decide +kernel) rfl ?_
  refine zw_lload 37 f125_35 rfl rfl ?_
  refine zw_lstore [(6, .long 0), (4, .long 1), (8, .long 0), (0, .long 0), (2, .long 1)] 39 f125_37 rfl (by decide +kernel) rfl ?_
  refine zw_goto 17 f125_39 (by decide +kernel) ?_
  refine zw_lload 19 f125_17 rfl rfl ?_
  refine zw_lconst 0 20 f125_19 rfl (by decide +kernel) ?_
  refine zw_lcmp 0 21 f125_20 rfl (by decide +kernel) ?_
  refine zw_if_eq_t 42 f125_21 (by decide +kernel) (by decide +kernel) ?_
  refine zw_lload 44 f125_42 rfl rfl ?_
  refine zw_lreturn f125_44 r125 u125 ⟨_, rfl, ?_⟩
  refine zw_putfieldS 54 f135_51 rfl g135_161_12 (zg_eq (zg_ne rfl (zg_ne rfl (zg_ne rfl (zg_ne rfl (zg_ne rfl (zg_ne rfl (zg_eq (mb_52 x))))))))) rfl (zg_eq (zg_ne rfl rfl)) (by decide +kernel) ?_
  refine zw_iinc 1 [(1, .int 1), (0, .ref 52)] 57 f135_54 rfl rfl (by decide +kernel) (by decide +kernel) rfl ?_
  refine zw_goto 31 f135_57 (by decide +kernel) ?_
  refine zw_iload_n 32 f135_31 rfl rfl ?_
  refine zw_bipush 8 34 f135_32 rfl (by decide +kernel) ?_
  refine zw_ic_ge_f 37 60 f135_34 (by decide +kernel) rfl (by decide +kernel) ?_
  refine zw_aload_n 38 f135_37 rfl rfl ?_
  refine zw_aload_n 39 f135_38 rfl rfl ?_
  refine zw_getfield 42 f135_39 rfl g135_44_12 (zg_eq (zg_ne rfl (zg_ne rfl (zg_ne rfl (zg_ne rfl (zg_ne rfl (zg_ne rfl (zg_eq (mb_52 x))))))))) (zg_ne rfl (zg_ne rfl rfl)) ?_
  refine zw_iload_n 43 f135_42 rfl rfl ?_
  refine zw_laload 1 0 44 f135_43 rfl (zg_ne rfl (zg_ne rfl (zg_ne rfl (zg_ne rfl (zg_ne rfl (zg_ne rfl (zg_ne rfl (zg_ne rfl (mb_63 x))))))))) (by decide +kernel) (by decide +kernel) (by decide +kernel) rfl ?_
  refine zw_aload_n 45 f135_44 rfl rfl ?_
  refine zw_getfield 48 f135_45 rfl g135_161_12 (zg_eq (zg_ne rfl (zg_ne rfl (zg_ne rfl (zg_ne rfl (zg_ne rfl (zg_ne rfl (zg_eq (mb_52 x))))))))) (zg_eq (zg_ne rfl rfl)) ?_
  refine zw_static_l 51 0 0 [.long 0, .long 1] [.ref 52] [(0, .long 0), (2, .long 1)] f135_48 rfl k135_164_99 rfl (by decide +kernel) (Nat.le_of_ble_eq_true rfl) (Nat.le_of_ble_eq_true rfl) rfl rfl (by decide +kernel) (by decide +kernel) rfl (Nat.le_of_ble_eq_true rfl) rfl ?_
  refine zw_lload_n 1 f125_0 rfl rfl ?_
  refine zw_lconst 0 2 f125_1 rfl (by decide +kernel) ?_
  refine zw_lcmp 0 3 f125_2 rfl (by decide +kernel) ?_
  refine zw_if_ge_t 11 f125_3 (by decide +kernel) (by decide +kernel) ?_
  refine zw_lload_n 12 f125_11 rfl rfl ?_
  refine zw_lstore [(4, .long 0), (0, .long 0), (2, .long 1)] 14 f125_12 rfl (by decide +kernel) rfl ?_
  refine zw_lload_n 15 f125_14 rfl rfl ?_
  refine zw_lstore [(6, .long 1), (4, .long 0), (0, .long 0), (2, .long 1)] 17 f125_15 rfl (by decide +kernel) rfl ?_
  refine zw_lload 19 f125_17 rfl rfl ?_
  refine zw_lconst 0 20 f125_19 rfl (by decide +kernel) ?_
  refine zw_lcmp 1 21 f125_20 rfl (by decide +kernel) ?_
  refine zw_if_eq_f 24 42 f125_21 (by decide +kernel) rfl (by decide +kernel) ?_
  refine zw_lload 26 f125_24 rfl rfl ?_
  refine zw_lload 28 f125_26 rfl rfl ?_
  refine zw_lrem 0 29 f125_28 rfl (by decide +kernel) (by decide +kernel) ?_
  refine zw_lstore [(8, .long 0), (6, .long 1), (4, .long 0), (0, .long 0), (2, .long 1)] 31 f125_29 rfl (by decide +kernel) rfl ?_
  refine zw_lload 33 f125_31 rfl rfl ?_
  refine zw_lstore [(4, .long 1), (8, .long 0), (6, .long 1), (0, .long 0), (2, .long 1)] 35 f125_33 rfl (by decide +kernel) rfl ?_
  refine zw_lload 37 f125_35 rfl rfl ?_
  refine zw_lstore [(6, .long 0), (4, .long 1), (8, .long 0), (0, .long 0), (2, .long 1)] 39 f125_37 rfl (by decide +kernel) rfl ?_
  refine zw_goto 17 f125_39 (by decide +kernel) ?_
  refine zw_lload 19 f125_17 rfl rfl ?_
  refine zw_lconst 0 20 f125_19 rfl (by decide +kernel) ?_
  refine zw_lcmp 0 21 f125_20 rfl (by decide +kernel) ?_
  refine zw_if_eq_t 42 f125_21 (by decide +kernel) (by decide +kernel) ?_
  refine zw_lload 44 f125_42 rfl rfl ?_
  refine zw_lreturn f125_44 r125 u125 ⟨_, rfl, ?_⟩
  refine zw_putfieldS 54 f135_51 rfl g135_161_12 (zg_eq (zg_ne rfl (zg_ne rfl (zg_ne rfl (zg_ne rfl (zg_ne rfl (zg_ne rfl (zg_eq (mb_52 x))))))))) rfl (zg_eq (zg_ne rfl rfl)) (by decide +kernel) ?_
  refine zw_iinc 2 [(1, .int 2), (0, .ref 52)] 57 f135_54 rfl rfl (by decide +kernel) (by decide +kernel) rfl ?_
  refine zw_goto 31 f135_57 (by decide +kernel) ?_
  refine zw_iload_n 32 f135_31 rfl rfl ?_
  refine zw_bipush 8 34 f135_32 rfl (by decide +kernel) ?_
  refine zw_ic_ge_f 37 60 f135_34 (by decide +kernel) rfl (by decide +kernel) ?_
  refine zw_aload_n 38 f135_37 rfl rfl ?_
  refine zw_aload_n 39 f135_38 rfl rfl ?_
  refine zw_getfield 42 f135_39 rfl g135_44_12 (zg_eq (zg_ne rfl (zg_ne rfl (zg_ne rfl (zg_ne rfl (zg_ne rfl (zg_ne rfl (zg_eq (mb_52 x))))))))) (zg_ne rfl (zg_ne rfl rfl)) ?_
  refine zw_iload_n 43 f135_42 rfl rfl ?_
  refine zw_laload 2 0 44 f135_43 rfl (zg_ne rfl (zg_ne rfl (zg_ne rfl (zg_ne rfl (zg_ne rfl (zg_ne rfl (zg_ne rfl (zg_ne rfl (mb_63 x))))))))) (by decide +kernel) (by decide +kernel) (by decide +kernel) rfl ?_
  refine zw_aload_n 45 f135_44 rfl rfl ?_
  refine zw_getfield 48 f135_45 rfl g135_161_12 (zg_eq (zg_ne rfl (zg_ne rfl (zg_ne rfl (zg_ne rfl (zg_ne rfl (zg_ne rfl (zg_eq (mb_52 x))))))))) (zg_eq (zg_ne rfl rfl)) ?_
  refine zw_static_l 51 0 0 [.long 0, .long 1] [.ref 52] [(0, .long 0), (2, .long 1)] f135_48 rfl k135_164_99 rfl (by decide +kernel) (Nat.le_of_ble_eq_true rfl) (Nat.le_of_ble_eq_true rfl) rfl rfl (by decide +kernel) (by decide +kernel) rfl (Nat.le_of_ble_eq_true rfl) rfl ?_
  refine zw_lload_n 1 f125_0 rfl rfl ?_
  refine zw_lconst 0 2 f125_1 rfl (by decide +kernel) ?_
  refine zw_lcmp 0 3 f125_2 rfl (by decide +kernel) ?_
  refine zw_if_ge_t 11 f125_3 (by decide +kernel) (by decide +kernel) ?_
  refine zw_lload_n 12 f125_11 rfl rfl ?_
  refine zw_lstore [(4, .long 0), (0, .long 0), (2, .long 1)] 14 f125_12 rfl (by decide +kernel) rfl ?_
  refine zw_lload_n 15 f125_14 rfl rfl ?_
  refine zw_lstore [(6, .long 1), (4, .long 0), (0, .long 0), (2, .long 1)] 17 f125_15 rfl (by decide +kernel) rfl ?_
  refine zw_lload 19 f125_17 rfl rfl ?_
  refine zw_lconst 0 20 f125_19 rfl (by decide +kernel) ?_
  refine zw_lcmp 1 21 f125_20 rfl (by decide +kernel) ?_
  refine zw_if_eq_f 24 42 f125_21 (by decide +kernel) rfl (by decide +kernel) ?_
  refine zw_lload 26 f125_24 rfl rfl ?_
  refine zw_lload 28 f125_26 rfl rfl ?_
  refine zw_lrem 0 29 f125_28 rfl (by decide +kernel) (by decide +kernel) ?_
  refine zw_lstore [(8, .long 0), (6, .long 1), (4, .long 0), (0, .long 0), (2, .long 1)] 31 f125_29 rfl (by decide +kernel) rfl ?_
  refine zw_lload 33 f125_31 rfl rfl ?_
  refine zw_lstore [(4, .long 1), (8, .long 0), (6, .long 1), (0, .long 0), (2, .long 1)] 35 f125_33 rfl (by decide +kernel) rfl ?_
  refine zw_lload 37 f125_35 rfl rfl ?_
  refine zw_lstore [(6, .long 0), (4, .long 1), (8, .long 0), (0, .long 0), (2, .long 1)] 39 f125_37 rfl (by decide +kernel) rfl ?_
  refine zw_goto 17 f125_39 (by decide +kernel) ?_
  refine zw_lload 19 f125_17 rfl rfl ?_
  refine zw_lconst 0 20 f125_19 rfl (by decide +kernel) ?_
  refine zw_lcmp 0 21 f125_20 rfl (by decide +kernel) ?_
  refine zw_if_eq_t 42 f125_21 (by decide +kernel) (by decide +kernel) ?_
  refine zw_lload 44 f125_42 rfl rfl ?_
  refine zw_lreturn f125_44 r125 u125 ⟨_, rfl, ?_⟩
  refine zw_putfieldS 54 f135_51 rfl g135_161_12 (zg_eq (zg_ne rfl (zg_ne rfl (zg_ne rfl (zg_ne rfl (zg_ne rfl (zg_ne rfl (zg_eq (mb_52 x))))))))) rfl (zg_eq (zg_ne rfl rfl)) (by decide +kernel) ?_
  refine zw_iinc 3 [(1, .int 3), (0, .ref 52)] 57 f135_54 rfl rfl (by decide +kernel) (by decide +kernel) rfl ?_
  refine zw_goto 31 f135_57 (by decide +kernel) ?_
  refine zw_iload_n 32 f135_31 rfl rfl ?_
  refine zw_bipush 8 34 f135_32 rfl (by decide +kernel) ?_
  refine zw_ic_ge_f 37 60 f135_34 (by decide +kernel) rfl (by decide +kernel) ?_
  refine zw_aload_n 38 f135_37 rfl rfl ?_
  refine zw_aload_n 39 f135_38 rfl rfl ?_
  refine zw_getfield 42 f135_39 rfl g135_44_12 (zg_eq (zg_ne rfl (zg_ne rfl (zg_ne rfl (zg_ne rfl (zg_ne rfl (zg_ne rfl (zg_eq (mb_52 x))))))))) (zg_ne rfl (zg_ne rfl rfl)) ?_
  refine zw_iload_n 43 f135_42 rfl rfl ?_
  refine zw_laload 3 0 44 f135_43 rfl (zg_ne rfl (zg_ne rfl (zg_ne rfl (zg_ne rfl (zg_ne rfl (zg_ne rfl (zg_ne rfl (zg_ne rfl (mb_63 x))))))))) (by decide +kernel) (by decide +kernel) (by decide +kernel) rfl ?_
  refine zw_aload_n 45 f135_44 rfl rfl ?_
  refine zw_getfield 48 f135_45 rfl g135_161_12 (zg_eq (zg_ne rfl (zg_ne rfl (zg_ne rfl (zg_ne rfl (zg_ne rfl (zg_ne rfl (zg_eq (mb_52 x))))))))) (zg_eq (zg_ne rfl rfl)) ?_
  refine zw_static_l 51 0 0 [.long 0, .long 1] [.ref 52] [(0, .long 0), (2, .long 1)] f135_48 rfl k135_164_99 rfl (by decide +kernel) (Nat.le_of_ble_eq_true rfl) (Nat.le_of_ble_eq_true rfl) rfl rfl (by decide +kernel) (by decide +kernel) rfl (Nat.le_of_ble_eq_true rfl) rfl ?_
  refine zw_lload_n 1 f125_0 rfl rfl ?_
  refine zw_lconst 0 2 f125_1 rfl (by decide +kernel) ?_
  refine zw_lcmp 0 3 f125_2 rfl (by decide +kernel) ?_
  refine zw_if_ge_t 11 f125_3 (by decide +kernel) (by decide +kernel) ?_
  refine zw_lload_n 12 f125_11 rfl rfl ?_
  refine zw_lstore [(4, .long 0), (0, .long 0), (2, .long 1)] 14 f125_12 rfl (by decide +kernel) rfl ?_
  refine zw_lload_n 15 f125_14 rfl rfl ?_
  refine zw_lstore [(6, .long 1), (4, .long 0), (0, .long 0), (2, .long 1)] 17 f125_15 rfl (by decide +kernel) rfl ?_
  refine zw_lload 19 f125_17 rfl rfl ?_
  refine zw_lconst 0 20 f125_19 rfl (by decide +kernel) ?_
  refine zw_lcmp 1 21 f125_20 rfl (by decide +kernel) ?_
  refine zw_if_eq_f 24 42 f125_21 (by decide +kernel) rfl (by decide +kernel) ?_
  refine zw_lload 26 f125_24 rfl rfl ?_
  refine zw_lload 28 f125_26 rfl rfl ?_
  refine zw_lrem 0 29 f125_28 rfl (by decide +kernel) (by decide +kernel) ?_
  refine zw_lstore [(8, .long 0), (6, .long 1), (4, .long 0), (0, .long 0), (2, .long 1)] 31 f125_29 rfl (by decide +kernel) rfl ?_
  refine zw_lload 33 f125_31 rfl rfl ?_
  refine zw_lstore [(4, .long 1), (8, .long 0), (6, .long 1), (0, .long 0), (2, .long 1)] 35 f125_33 rfl (by decide +kernel) rfl ?_
  refine zw_lload 37 f125_35 rfl rfl ?_
  refine zw_lstore [(6, .long 0), (4, .long 1), (8, .long 0), (0, .long 0), (2, .long 1)] 39 f125_37 rfl (by decide +kernel) rfl ?_
  refine zw_goto 17 f125_39 (by decide +kernel) ?_
  refine zw_lload 19 f125_17 rfl rfl ?_
  refine zw_lconst 0 20 f125_19 rfl (by decide +kernel) ?_
  refine zw_lcmp 0 21 f125_20 rfl (by decide +kernel) ?_
  refine zw_if_eq_t 42 f125_21 (by decide +kernel) (by decide +kernel) ?_
  refine zw_lload 44 f125_42 rfl rfl ?_
  refine zw_lreturn f125_44 r125 u125 ⟨_, rfl, ?_⟩
  refine zw_putfieldS 54 f135_51 rfl g135_161_12 (zg_eq (zg_ne rfl (zg_ne rfl (zg_ne rfl (zg_ne rfl (zg_ne rfl (zg_ne rfl (zg_eq (mb_52 x))))))))) rfl (zg_eq (zg_ne rfl rfl)) (by decide +kernel) ?_
  refine zw_iinc 4 [(1, .int 4), (0, .ref 52)] 57 f135_54 rfl rfl (by decide +kernel) (by decide +kernel) rfl ?_
  refine zw_goto 31 f135_57 (by decide +kernel) ?_
  refine zw_iload_n 32 f135_31 rfl rfl ?_
  refine zw_bipush 8 34 f135_32 rfl (by decide +kernel) ?_
  refine zw_ic_ge_f 37 60 f135_34 (by decide +kernel) rfl (by decide +kernel) ?_
  refine zw_aload_n 38 f135_37 rfl rfl ?_
  refine zw_aload_n 39 f135_38 rfl rfl ?_
  refine zw_getfield 42 f135_39 rfl g135_44_12 (zg_eq (zg_ne rfl (zg_ne rfl (zg_ne rfl (zg_ne rfl (zg_ne rfl (zg_ne rfl (zg_eq (mb_52 x))))))))) (zg_ne rfl (zg_ne rfl rfl)) ?_
  refine zw_iload_n 43 f135_42 rfl rfl ?_
  refine zw_laload 4 0 44 f135_43 rfl (zg_ne rfl (zg_ne rfl (zg_ne rfl (zg_ne rfl (zg_ne rfl (zg_ne rfl (zg_ne rfl (zg_ne rfl (mb_63 x))))))))) (by decide +kernel) (by decide +kernel) (by decide +kernel) rfl ?_
  refine zw_aload_n 45 f135_44 rfl rfl ?_
  refine zw_getfield 48 f135_45 rfl g135_161_12 (zg_eq (zg_ne rfl (zg_ne rfl (zg_ne rfl (zg_ne rfl (zg_ne rfl (zg_ne rfl (zg_eq (mb_52 x))))))))) (zg_eq (zg_ne rfl rfl)) ?_
  refine zw_static_l 51 0 0 [.long 0, .long 1] [.ref 52] [(0, .long 0), (2, .long 1)] f135_48 rfl k135_164_99 rfl (by decide +kernel) (Nat.le_of_ble_eq_true rfl) (Nat.le_of_ble_eq_true rfl) rfl rfl (by decide +kernel) (by decide +kernel) rfl (Nat.le_of_ble_eq_true rfl) rfl ?_
  refine zw_lload_n 1 f125_0 rfl rfl ?_
  refine zw_lconst 0 2 f125_1 rfl (by decide +kernel) ?_
  refine zw_lcmp 0 3 f125_2 rfl (by decide +kernel) ?_
  refine zw_if_ge_t 11 f125_3 (by decide +kernel) (by decide +kernel) ?_
  refine zw_lload_n 12 f125_11 rfl rfl ?_
  refine zw_lstore [(4, .long 0), (0, .long 0), (2, .long 1)] 14 f125_12 rfl (by decide +kernel) rfl ?_
  refine zw_lload_n 15 f125_14 rfl rfl ?_
  refine zw_lstore [(6, .long 1), (4, .long 0), (0, .long 0), (2, .long 1)] 17 f125_15 rfl (by decide +kernel) rfl ?_
  refine zw_lload 19 f125_17 rfl rfl ?_
  refine zw_lconst 0 20 f125_19 rfl (by decide +kernel) ?_
  refine zw_lcmp 1 21 f125_20 rfl (by decide +kernel) ?_
  refine zw_if_eq_f 24 42 f125_21 (by decide +kernel) rfl (by decide +kernel) ?_
  refine zw_lload 26 f125_24 rfl rfl ?_
  refine zw_lload 28 f125_26 rfl rfl ?_
  refine zw_lrem 0 29 f125_28 rfl (by decide +kernel) (by decide +kernel) ?_
  refine zw_lstore [(8, .long 0), (6, .long 1), (4, .long 0), (0, .long 0), (2, .long 1)] 31 f125_29 rfl (by decide +kernel) rfl ?_
  refine zw_lload 33 f125_31 rfl rfl ?_
  refine zw_lstore [(4, .long 1), (8, .long 0), (6, .long 1), (0, .long 0), (2, .long 1)] 35 f125_33 rfl (by decide +kernel) rfl ?_
  refine zw_lload 37 f125_35 rfl rfl ?_
  refine zw_lstore [(6, .long 0), (4, .long 1), (8, .long 0), (0, .long 0), (2, .long 1)] 39 f125_37 rfl (by decide +kernel) rfl ?_
  refine zw_goto 17 f125_39 (by decide +kernel) ?_
  refine zw_lload 19 f125_17 rfl rfl ?_
  refine zw_lconst 0 20 f125_19 rfl (by decide +kernel) ?_
  refine zw_lcmp 0 21 f125_20 rfl (by decide +kernel) ?_
  refine zw_if_eq_t 42 f125_21 (by decide +kernel) (by decide +kernel) ?_
  refine zw_lload 44 f125_42 rfl rfl ?_
  refine zw_lreturn f125_44 r125 u125 ⟨_, rfl, ?_⟩
  refine zw_putfieldS 54 f135_51 rfl g135_161_12 (zg_eq (zg_ne rfl (zg_ne rfl (zg_ne rfl (zg_ne rfl (zg_ne rfl (zg_ne rfl (zg_eq (mb_52 x))))))))) rfl (zg_eq (zg_ne rfl rfl)) (by decide +kernel) ?_
  refine zw_iinc 5 [(1, .int 5), (0, .ref 52)] 57 f135_54 rfl rfl (by decide +kernel) (by decide +kernel) rfl ?_
  refine zw_goto 31 f135_57 (by decide +kernel) ?_
  refine zw_iload_n 32 f135_31 rfl rfl ?_
  refine zw_bipush 8 34 f135_32 rfl (by decide +kernel) ?_
  refine zw_ic_ge_f 37 60 f135_34 (by decide +kernel) rfl (by decide +kernel) ?_
  refine zw_aload_n 38 f135_37 rfl rfl ?_
  refine zw_aload_n 39 f135_38 rfl rfl ?_
  refine zw_getfield 42 f135_39 rfl g135_44_12 (zg_eq (zg_ne rfl (zg_ne rfl (zg_ne rfl (zg_ne rfl (zg_ne rfl (zg_ne rfl (zg_eq (mb_52 x))))))))) (zg_ne rfl (zg_ne rfl rfl)) ?_
  refine zw_iload_n 43 f135_42 rfl rfl ?_
  refine zw_laload 5 0 44 f135_43 rfl (zg_ne rfl (zg_ne rfl (zg_ne rfl (zg_ne rfl (zg_ne rfl (zg_ne rfl (zg_ne rfl (zg_ne rfl (mb_63 x))))))))) (by decide +kernel) (by decide +kernel) (by decide +kernel) rfl ?_
  refine zw_aload_n 45 f135_44 rfl rfl ?_
  refine zw_getfield 48 f135_45 rfl g135_161_12 (zg_eq (zg_ne rfl (zg_ne rfl (zg_ne rfl (zg_ne rfl (zg_ne rfl (zg_ne rfl (zg_eq (mb_52 x))))))))) (zg_eq (zg_ne rfl rfl)) ?_
  refine zw_static_l 51 0 0 [.long 0, .long 1] [.ref 52] [(0, .long 0), (2, .long 1)] f135_48 rfl k135_164_99 rfl (by decide +kernel) (Nat.le_of_ble_eq_true rfl) (Nat.le_of_ble_eq_true rfl) rfl rfl (by decide +kernel) (by decide +kernel) rfl (Nat.le_of_ble_eq_true rfl) rfl ?_
  refine zw_lload_n 1 f125_0 rfl rfl ?_
  refine zw_lconst 0 2 f125_1 rfl (by decide +kernel) ?_
  refine zw_lcmp 0 3 f125_2 rfl (by decide +kernel) ?_
  refine zw_if_ge_t 11 f125_3 (by decide +kernel) (by decide +kernel) ?_
  refine zw_lload_n 12 f125_11 rfl rfl ?_
  refine zw_lstore [(4, .long 0), (0, .long 0), (2, .long 1)] 14 f125_12 rfl (by decide +kernel) rfl ?_
  refine zw_lload_n 15 f125_14 rfl rfl ?_
  refine zw_lstore [(6, .long 1), (4, .long 0), (0, .long 0), (2, .long 1)] 17 f125_15 rfl (by decide +kernel) rfl ?_
  refine zw_lload 19 f125_17 rfl rfl ?_
  refine zw_lconst 0 20 f125_19 rfl (by decide +kernel) ?_
  refine zw_lcmp 1 21 f125_20 rfl (by decide +kernel) ?_
  refine zw_if_eq_f 24 42 f125_21 (by decide +kernel) rfl (by decide +kernel) ?_
  refine zw_lload 26 f125_24 rfl rfl ?_
  refine zw_lload 28 f125_26 rfl rfl ?_
  refine zw_lrem 0 29 f125_28 rfl (by decide +kernel) (by decide +kernel) ?_
  refine zw_lstore [(8, .long 0), (6, .long 1), (4, .long 0), (0, .long 0), (2, .long 1)] 31 f125_29 rfl (by decide +kernel) rfl ?_
  refine zw_lload 33 f125_31 rfl rfl ?_
  refine zw_lstore [(4, .long 1), (8, .long 0), (6, .long 1), (0, .long 0), (2, .long 1)] 35 f125_33 rfl (by decide +kernel) rfl ?_
  refine zw_lload 37 f125_35 rfl rfl ?_
  refine zw_lstore [(6, .long 0), (4, .long 1), (8, .long 0), (0, .long 0), (2, .long 1)] 39 f125_37 rfl (by decide +kernel) rfl ?_
  refine zw_goto 17 f125_39 (by decide +kernel) ?_
  refine zw_lload 19 f125_17 rfl rfl ?_
  refine zw_lconst 0 20 f125_19 rfl (by decide +kernel) ?_
  refine zw_lcmp 0 21 f125_20 rfl (by decide +kernel) ?_
  refine zw_if_eq_t 42 f125_21 (by decide +kernel) (by decide +kernel) ?_
  refine zw_lload 44 f125_42 rfl rfl ?_
  refine zw_lreturn f125_44 r125 u125 ⟨_, rfl, ?_⟩
  refine zw_putfieldS 54 f135_51 rfl g135_161_12 (zg_eq (zg_ne rfl (zg_ne rfl (zg_ne rfl (zg_ne rfl (zg_ne rfl (zg_ne rfl (zg_eq (mb_52 x))))))))) rfl (zg_eq (zg_ne rfl rfl)) (by decide +kernel) ?_
  refine zw_iinc 6 [(1, .int 6), (0, .ref 52)] 57 f135_54 rfl rfl (by decide +kernel) (by decide +kernel) rfl ?_
  refine zw_goto 31 f135_57 (by decide +kernel) ?_
  refine zw_iload_n 32 f135_31 rfl rfl ?_
  refine zw_bipush 8 34 f135_32 rfl (by decide +kernel) ?_
  refine zw_ic_ge_f 37 60 f135_34 (by decide +kernel) rfl (by decide +kernel) ?_
  refine zw_aload_n 38 f135_37 rfl rfl ?_
  refine zw_aload_n 39 f135_38 rfl rfl ?_
  refine zw_getfield 42 f135_39 rfl g135_44_12 (zg_eq (zg_ne rfl (zg_ne rfl (zg_ne rfl (zg_ne rfl (zg_ne rfl (zg_ne rfl (zg_eq (mb_52 x))))))))) (zg_ne rfl (zg_ne rfl rfl)) ?_
  refine zw_iload_n 43 f135_42 rfl rfl ?_
  refine zw_laload 6 0 44 f135_43 rfl (zg_ne rfl (zg_ne rfl (zg_ne rfl (zg_ne rfl (zg_ne rfl (zg_ne rfl (zg_ne rfl (zg_ne rfl (mb_63 x))))))))) (by decide +kernel) (by decide +kernel) (by decide +kernel) rfl ?_
  refine zw_aload_n 45 f135_44 rfl rfl ?_
  refine zw_getfield 48 f135_45 rfl g135_161_12 (zg_eq (zg_ne rfl (zg_ne rfl (zg_ne rfl (zg_ne rfl (zg_ne rfl (zg_ne rfl (zg_eq (mb_52 x))))))))) (zg_eq (zg_ne rfl rfl)) ?_
  refine zw_static_l 51 0 0 [.long 0, .long 1] [.ref 52] [(0, .long 0), (2, .long 1)] f135_48 rfl k135_164_99 rfl (by decide +kernel) (Nat.le_of_ble_eq_true rfl) (Nat.le_of_ble_eq_true rfl) rfl rfl (by decide +kernel) (by decide +kernel) rfl (Nat.le_of_ble_eq_true rfl) rfl ?_
  refine zw_lload_n 1 f125_0 rfl rfl ?_
  refine zw_lconst 0 2 f125_1 rfl (by decide +kernel) ?_
  refine zw_lcmp 0 3 f125_2 rfl (by decide +kernel) ?_
  refine zw_if_ge_t 11 f125_3 (by decide +kernel) (by decide +kernel) ?_
  refine zw_lload_n 12 f125_11 rfl rfl ?_
  refine zw_lstore [(4, .long 0), (0, .long 0), (2, .long 1)] 14 f125_12 rfl (by decide +kernel) rfl ?_
  refine zw_lload_n 15 f125_14 rfl rfl ?_
  refine zw_lstore [(6, .long 1), (4, .long 0), (0, .long 0), (2, .long 1)] 17 f125_15 rfl (by decide +kernel) rfl ?_
  refine zw_lload 19 f125_17 rfl rfl ?_
  refine zw_lconst 0 20 f125_19 rfl (by decide +kernel) ?_
  refine zw_lcmp 1 21 f125_20 rfl (by decide +kernel) ?_
  refine zw_if_eq_f 24 42 f125_21 (by decide +kernel) rfl (by decide +kernel) ?_
  refine zw_lload 26 f125_24 rfl rfl ?_
  refine zw_lload 28 f125_26 rfl rfl ?_
  refine zw_lrem 0 29 f125_28 rfl (by decide +kernel) (by decide +kernel) ?_
  refine zw_lstore [(8, .long 0), (6, .long 1), (4, .long 0), (0, .long 0), (2, .long 1)] 31 f125_29 rfl (by decide +kernel) rfl ?_
  refine zw_lload 33 f125_31 rfl rfl ?_
  refine zw_lstore [(4, .long 1), (8, .long 0), (6, .long 1), (0, .long 0), (2, .long 1)] 35 f125_33 rfl (by decide +kernel) rfl ?_
  refine zw_lload 37 f125_35 rfl rfl ?_
  refine zw_lstore [(6, .long 0), (4, .long 1), (8, .long 0), (0, .long 0), (2, .long 1)] 39 f125_37 rfl (by decide +kernel) rfl ?_
  refine zw_goto 17 f125_39 (by decide +kernel) ?_
  refine zw_lload 19 f125_17 rfl rfl ?_
  refine zw_lconst 0 20 f125_19 rfl (by decide +kernel) ?_
  refine zw_lcmp 0 21 f125_20 rfl (by decide +kernel) ?_
  refine zw_if_eq_t 42 f125_21 (by decide +kernel) (by decide +kernel) ?_
  refine zw_lload 44 f125_42 rfl rfl ?_
  refine zw_lreturn f125_44 r125 u125 ⟨_, rfl, ?_⟩
  refine zw_putfieldS 54 f135_51 rfl g135_161_12 (zg_eq (zg_ne rfl (zg_ne rfl (zg_ne rfl (zg_ne rfl (zg_ne rfl (zg_ne rfl (zg_eq (mb_52 x))))))))) rfl (zg_eq (zg_ne rfl rfl)) (by decide +kernel) ?_
  refine zw_iinc 7 [(1, .int 7), (0, .ref 52)] 57 f135_54 rfl rfl (by decide +kernel) (by decide +kernel) rfl ?_
  refine zw_goto 31 f135_57 (by decide +kernel) ?_
  refine zw_iload_n 32 f135_31 rfl rfl ?_
  refine zw_bipush 8 34 f135_32 rfl (by decide +kernel) ?_
  refine zw_ic_ge_f 37 60 f135_34 (by decide +kernel) rfl (by decide +kernel) ?_
  refine zw_aload_n 38 f135_37 rfl rfl ?_
  refine zw_aload_n 39 f135_38 rfl rfl ?_
  refine zw_getfield 42 f135_39 rfl g135_44_12 (zg_eq (zg_ne rfl (zg_ne rfl (zg_ne rfl (zg_ne rfl (zg_ne rfl (zg_ne rfl (zg_eq (mb_52 x))))))))) (zg_ne rfl (zg_ne rfl rfl)) ?_
  refine zw_iload_n 43 f135_42 rfl rfl ?_
  refine zw_laload 7 0 44 f135_43 rfl (zg_ne rfl (zg_ne rfl (zg_ne rfl (zg_ne rfl (zg_ne rfl (zg_ne rfl (zg_ne rfl (zg_ne rfl (mb_63 x))))))))) (by decide +kernel) (by decide +kernel) (by decide +kernel) rfl ?_
  refine zw_aload_n 45 f135_44 rfl rfl ?_
  refine zw_getfield 48 f135_45 rfl g135_161_12 (zg_eq (zg_ne rfl (zg_ne rfl (zg_ne rfl (zg_ne rfl (zg_ne rfl (zg_ne rfl (zg_eq (mb_52 x))))))))) (zg_eq (zg_ne rfl rfl)) ?_
  refine zw_static_l 51 0 0 [.long 0, .long 1] [.ref 52] [(0, .long 0), (2, .long 1)] f135_48 rfl k135_164_99 rfl (by decide +kernel) (Nat.le_of_ble_eq_true rfl) (Nat.le_of_ble_eq_true rfl) rfl rfl (by decide +kernel) (by decide +kernel) rfl (Nat.le_of_ble_eq_true rfl) rfl ?_
  refine zw_lload_n 1 f125_0 rfl rfl ?_
  refine zw_lconst 0 2 f125_1 rfl (by decide +kernel) ?_
  refine zw_lcmp 0 3 f125_2 rfl (by decide +kernel) ?_
  refine zw_if_ge_t 11 f125_3 (by decide +kernel) (by decide +kernel) ?_
  refine zw_lload_n 12 f125_11 rfl rfl ?_
  refine zw_lstore [(4, .long 0), (0, .long 0), (2, .long 1)] 14 f125_12 rfl (by decide +kernel) rfl ?_
  refine zw_lload_n 15 f125_14 rfl rfl ?_
  refine zw_lstore [(6, .long 1), (4, .long 0), (0, .long 0), (2, .long 1)] 17 f125_15 rfl (by decide +kernel) rfl ?_
  refine zw_lload 19 f125_17 rfl rfl ?_
  refine zw_lconst 0 20 f125_19 rfl (by decide +kernel) ?_
  refine zw_lcmp 1 21 f125_20 rfl (by decide +kernel) ?_
  refine zw_if_eq_f 24 42 f125_21 (by decide +kernel) rfl (by decide +kernel) ?_
  refine zw_lload 26 f125_24 rfl rfl ?_
  refine zw_lload 28 f125_26 rfl rfl ?_
  refine zw_lrem 0 29 f125_28 rfl (by decide +kernel) (by decide +kernel) ?_
  refine zw_lstore [(8, .long 0), (6, .long 1), (4, .long 0), (0, .long 0), (2, .long 1)] 31 f125_29 rfl (by decide +kernel) rfl ?_
  refine zw_lload 33 f125_31 rfl rfl ?_
  refine zw_lstore [(4, .long 1), (8, .long 0), (6, .long 1), (0, .long 0), (2, .long 1)] 35 f125_33 rfl (by decide +kernel) rfl ?_
  refine zw_lload 37 f125_35 rfl rfl ?_
  refine zw_lstore [(6, .long 0), (4, .long 1), (8, .long 0), (0, .long 0), (2, .long 1)] 39 f125_37 rfl (by decide +kernel) rfl ?_
  refine zw_goto 17 f125_39 (by decide +kernel) ?_
  refine zw_lload 19 f125_17 rfl rfl ?_
  refine zw_lconst 0 20 f125_19 rfl (by decide +kernel) ?_
  refine zw_lcmp 0 21 f125_20 rfl (by decide +kernel) ?_
  refine zw_if_eq_t 42 f125_21 (by decide +kernel) (by decide +kernel) ?_
  refine zw_lload 44 f125_42 rfl rfl ?_
  refine zw_lreturn f125_44 r125 u125 ⟨_, rfl, ?_⟩
  refine zw_putfieldS 54 f135_51 rfl g135_161_12 (zg_eq (zg_ne rfl (zg_ne rfl (zg_ne rfl (zg_ne rfl (zg_ne rfl (zg_ne rfl (zg_eq (mb_52 x))))))))) rfl (zg_eq (zg_ne rfl rfl)) (by decide +kernel) ?_
  refine zw_iinc 8 [(1, .int 8), (0, .ref 52)] 57 f135_54 rfl rfl (by decide +kernel) (by decide +kernel) rfl ?_
  refine zw_goto 31 f135_57 (by decide +kernel) ?_
  refine zw_iload_n 32 f135_31 rfl rfl ?_
  refine zw_bipush 8 34 f135_32 rfl (by decide +kernel) ?_
  refine zw_ic_ge_t 60 f135_34 (by decide +kernel) (by decide +kernel) ?_
  refine zw_aload_n 61 f135_60 rfl rfl ?_
  refine zw_dup 62 f135_61 rfl rfl ?_
  refine zw_getfield 65 f135_62 rfl g135_172_12 (zg_eq (zg_ne rfl (zg_ne rfl (zg_ne rfl (zg_ne rfl (zg_ne rfl (zg_ne rfl (zg_eq (mb_52 x))))))))) (zg_ne rfl (zg_ne rfl rfl)) ?_
  refine zw_aload_n 66 f135_65 rfl rfl ?_
  refine zw_getfield 69 f135_66 rfl g135_161_12 (zg_eq (zg_ne rfl (zg_ne rfl (zg_ne rfl (zg_ne rfl (zg_ne rfl (zg_ne rfl (zg_eq (mb_52 x))))))))) (zg_eq (zg_ne rfl rfl)) ?_
  refine zw_ldiv 0 70 f135_69 rfl (by decide +kernel) (by decide +kernel) ?_
  refine zw_putfieldS 73 f135_70 rfl g135_172_12 (zg_eq (zg_ne rfl (zg_ne rfl (zg_ne rfl (zg_ne rfl (zg_ne rfl (zg_ne rfl (zg_eq (mb_52 x))))))))) rfl (zg_ne rfl (zg_ne rfl rfl)) (by decide +kernel) ?_
  refine zw_aload_n 74 f135_73 rfl rfl ?_
  refine zw_dup 75 f135_74 rfl rfl ?_
  refine zw_getfield 78 f135_75 rfl g135_175_12 (zg_eq (zg_ne rfl (zg_ne rfl (zg_ne rfl (zg_ne rfl (zg_ne rfl (zg_ne rfl (zg_eq (mb_52 x))))))))) (zg_ne rfl (zg_ne rfl rfl)) ?_
  refine zw_aload_n 79 f135_78 rfl rfl ?_
  refine zw_getfield 82 f135_79 rfl g135_161_12 (zg_eq (zg_ne rfl (zg_ne rfl (zg_ne rfl (zg_ne rfl (zg_ne rfl (zg_ne rfl (zg_eq (mb_52 x))))))))) (zg_eq (zg_ne rfl rfl)) ?_
  refine zw_ldiv 0 83 f135_82 rfl (by decide +kernel) (by decide +kernel) ?_
  refine zw_putfieldS 86 f135_83 rfl g135_175_12 (zg_eq (zg_ne rfl (zg_ne rfl (zg_ne rfl (zg_ne rfl (zg_ne rfl (zg_ne rfl (zg_eq (mb_52 x))))))))) rfl (zg_ne rfl (zg_ne rfl rfl)) (by decide +kernel) ?_
  refine zw_aload_n 87 f135_86 rfl rfl ?_
  refine zw_dup 88 f135_87 rfl rfl ?_
  refine zw_getfield 91 f135_88 rfl g135_178_12 (zg_eq (zg_ne rfl (zg_ne rfl (zg_ne rfl (zg_ne rfl (zg_ne rfl (zg_ne rfl (zg_eq (mb_52 x))))))))) (zg_ne rfl (zg_ne rfl rfl)) ?_
  refine zw_aload_n 92 f135_91 rfl rfl ?_
  refine zw_getfield 95 f135_92 rfl g135_161_12 (zg_eq (zg_ne rfl (zg_ne rfl (zg_ne rfl (zg_ne rfl (zg_ne rfl (zg_ne rfl (zg_eq (mb_52 x))))))))) (zg_eq (zg_ne rfl rfl)) ?_
  refine zw_ldiv 0 96 f135_95 rfl (by decide +kernel) (by decide +kernel) ?_
  refine zw_putfieldS 99 f135_96 rfl g135_178_12 (zg_eq (zg_ne rfl (zg_ne rfl (zg_ne rfl (zg_ne rfl (zg_ne rfl (zg_ne rfl (zg_eq (mb_52 x))))))))) rfl (zg_ne rfl (zg_ne rfl rfl)) (by decide +kernel) ?_
  refine zw_iconst 0 100 f135_99 rfl (by decide +kernel) ?_
  refine zw_istore_n [(1, .int 0), (0, .ref 52)] 101 f135_100 rfl (by decide +kernel) rfl ?_
  refine zw_iload_n 102 f135_101 rfl rfl ?_
  refine zw_bipush 8 104 f135_102 rfl (by decide +kernel) ?_
  refine zw_ic_ge_f 107 126 f135_104 (by decide +kernel) rfl (by decide +kernel) ?_
  refine zw_aload_n 108 f135_107 rfl rfl ?_
  refine zw_getfield 111 f135_108 rfl g135_44_12 (zg_eq (zg_ne rfl (zg_ne rfl (zg_ne rfl (zg_ne rfl (zg_ne rfl (zg_ne rfl (zg_eq (mb_52 x))))))))) (zg_ne rfl (zg_ne rfl rfl)) ?_
  refine zw_iload_n 112 f135_111 rfl rfl ?_
  refine zw_dup2 113 f135_112 rfl rfl rfl ?_
  refine zw_laload 0 0 114 f135_113 rfl (zg_ne rfl (zg_ne rfl (zg_ne rfl (zg_ne rfl (zg_ne rfl (zg_ne rfl (zg_ne rfl (zg_ne rfl (mb_63 x))))))))) (by decide +kernel) (by decide +kernel) (by decide +kernel) rfl ?_
  refine zw_aload_n 115 f135_114 rfl rfl ?_
  refine zw_getfield 118 f135_115 rfl g135_161_12 (zg_eq (zg_ne rfl (zg_ne rfl (zg_ne rfl (zg_ne rfl (zg_ne rfl (zg_ne rfl (zg_eq (mb_52 x))))))))) (zg_eq (zg_ne rfl rfl)) ?_
  refine zw_ldiv 0 119 f135_118 rfl (by decide +kernel) (by decide +kernel) ?_
  refine zw_lastoreS 0 120 f135_119 rfl (zg_ne rfl (zg_ne rfl (zg_ne rfl (zg_ne rfl (zg_ne rfl (zg_ne rfl (zg_ne rfl (zg_ne rfl (mb_63 x))))))))) (by decide +kernel) (by decide +kernel) (by decide +kernel) rfl ?_
  refine zw_iinc 1 [(1, .int 1), (0, .ref 52)] 123 f135_120 rfl rfl (by decide +kernel) (by decide +kernel) rfl ?_
  refine zw_goto 101 f135_123 (by decide +kernel) ?_
  refine zw_iload_n 102 f135_101 rfl rfl ?_
  refine zw_bipush 8 104 f135_102 rfl (by decide +kernel) ?_
  refine zw_ic_ge_f 107 126 f135_104 (by decide +kernel) rfl (by decide +kernel) ?_
  refine zw_aload_n 108 f135_107 rfl rfl ?_
  refine zw_getfield 111 f135_108 rfl g135_44_12 (zg_eq (zg_ne rfl (zg_ne rfl (zg_ne rfl (zg_ne rfl (zg_ne rfl (zg_ne rfl (zg_eq (mb_52 x))))))))) (zg_ne rfl (zg_ne rfl rfl)) ?_
  refine zw_iload_n 112 f135_111 rfl rfl ?_
  refine zw_dup2 113 f135_112 rfl rfl rfl ?_
  refine zw_laload 1 0 114 f135_113 rfl (zg_ne rfl (zg_ne rfl (zg_ne rfl (zg_ne rfl (zg_ne rfl (zg_ne rfl (zg_ne rfl (zg_ne rfl (mb_63 x))))))))) (by decide +kernel) (by decide +kernel) (by decide +kernel) rfl ?_
  refine zw_aload_n 115 f135_114 rfl rfl ?_
  refine zw_getfield 118 f135_115 rfl g135_161_12 (zg_eq (zg_ne rfl (zg_ne rfl (zg_ne rfl (zg_ne rfl (zg_ne rfl (zg_ne rfl (zg_eq (mb_52 x))))))))) (zg_eq (zg_ne rfl rfl)) ?_
  refine zw_ldiv 0 119 f135_118 rfl (by decide +kernel) (by decide +kernel) ?_
  refine zw_lastoreS 1 120 f135_119 rfl (zg_ne rfl (zg_ne rfl (zg_ne rfl (zg_ne rfl (zg_ne rfl (zg_ne rfl (zg_ne rfl (zg_ne rfl (mb_63 x))))))))) (by decide +kernel) (by decide +kernel) (by decide +kernel) rfl ?_
  refine zw_iinc 2 [(1, .int 2), (0, .ref 52)] 123 f135_120 rfl rfl (by decide +kernel) (by decide +kernel) rfl ?_
  refine zw_goto 101 f135_123 (by decide +kernel) ?_
  refine zw_iload_n 102 f135_101 rfl rfl ?_
  refine zw_bipush 8 104 f135_102 rfl (by decide +kernel) ?_
  refine zw_ic_ge_f 107 126 f135_104 (by decide +kernel) rfl (by decide +kernel) ?_
  refine zw_aload_n 108 f135_107 rfl rfl ?_
  refine zw_getfield 111 f135_108 rfl g135_44_12 (zg_eq (zg_ne rfl (zg_ne rfl (zg_ne rfl (zg_ne rfl (zg_ne rfl (zg_ne rfl (zg_eq (mb_52 x))))))))) (zg_ne rfl (zg_ne rfl rfl)) ?_
  refine zw_iload_n 112 f135_111 rfl rfl ?_
  refine zw_dup2 113 f135_112 rfl rfl rfl ?_
  refine zw_laload 2 0 114 f135_113 rfl (zg_ne rfl (zg_ne rfl (zg_ne rfl (zg_ne rfl (zg_ne rfl (zg_ne rfl (zg_ne rfl (zg_ne rfl (mb_63 x))))))))) (by decide +kernel) (by decide +kernel) (by decide +kernel) rfl ?_
  refine zw_aload_n 115 f135_114 rfl rfl ?_
  refine zw_getfield 118 f135_115 rfl g135_161_12 (zg_eq (zg_ne rfl (zg_ne rfl (zg_ne rfl (zg_ne rfl (zg_ne rfl (zg_ne rfl (zg_eq (mb_52 x))))))))) (zg_eq (zg_ne rfl rfl)) ?_
  refine zw_ldiv 0 119 f135_118 rfl (by decide +kernel) (by decide +kernel) ?_
  refine zw_lastoreS 2 120 f135_119 rfl (zg_ne rfl (zg_ne rfl (zg_ne rfl (zg_ne rfl (zg_ne rfl (zg_ne rfl (zg_ne rfl (zg_ne rfl (mb_63 x))))))))) (by decide +kernel) (by decide +kernel) (by decide +kernel) rfl ?_
  refine zw_iinc 3 [(1, .int 3), (0, .ref 52)] 123 f135_120 rfl rfl (by decide +kernel) (by decide +kernel) rfl ?_
  refine zw_goto 101 f135_123 (by decide +kernel) ?_
  refine zw_iload_n 102 f135_101 rfl rfl ?_
  refine zw_bipush 8 104 f135_102 rfl (by decide +kernel) ?_
  refine zw_ic_ge_f 107 126 f135_104 (by decide +kernel) rfl (by decide +kernel) ?_
  refine zw_aload_n 108 f135_107 rfl rfl ?_
  refine zw_getfield 111 f135_108 rfl g135_44_12 (zg_eq (zg_ne rfl (zg_ne rfl (zg_ne rfl (zg_ne rfl (zg_ne rfl (zg_ne rfl (zg_eq (mb_52 x))))))))) (zg_ne rfl (zg_ne rfl rfl)) ?_
  refine zw_iload_n 112 f135_111 rfl rfl ?_
  refine zw_dup2 113 f135_112 rfl rfl rfl ?_
  refine zw_laload 3 0 114 f135_113 rfl (zg_ne rfl (zg_ne rfl (zg_ne rfl (zg_ne rfl (zg_ne rfl (zg_ne rfl (zg_ne rfl (zg_ne rfl (mb_63 x))))))))) (by decide +kernel) (by decide +kernel) (by decide +kernel) rfl ?_
  refine zw_aload_n 115 f135_114 rfl rfl ?_
  refine zw_getfield 118 f135_115 rfl g135_161_12 (zg_eq (zg_ne rfl (zg_ne rfl (zg_ne rfl (zg_ne rfl (zg_ne rfl (zg_ne rfl (zg_eq (mb_52 x))))))))) (zg_eq (zg_ne rfl rfl)) ?_
  refine zw_ldiv 0 119 f135_118 rfl (by decide +kernel) (by decide +kernel) ?_
  refine zw_lastoreS 3 120 f135_119 rfl (zg_ne rfl (zg_ne rfl (zg_ne rfl (zg_ne rfl (zg_ne rfl (zg_ne rfl (zg_ne rfl (zg_ne rfl (mb_63 x))))))))) (by decide +kernel) (by decide +kernel) (by decide +kernel) rfl ?_
  refine zw_iinc 4 [(1, .int 4), (0, .ref 52)] 123 f135_120 rfl rfl (by decide +kernel) (by decide +kernel) rfl ?_
  refine zw_goto 101 f135_123 (by decide +kernel) ?_
  refine zw_iload_n 102 f135_101 rfl rfl ?_
  refine zw_bipush 8 104 f135_102 rfl (by decide +kernel) ?_
  refine zw_ic_ge_f 107 126 f135_104 (by decide +kernel) rfl (by decide +kernel) ?_
  refine zw_aload_n 108 f135_107 rfl rfl ?_
  refine zw_getfield 111 f135_108 rfl g135_44_12 (zg_eq (zg_ne rfl (zg_ne rfl (zg_ne rfl (zg_ne rfl (zg_ne rfl (zg_ne rfl (zg_eq (mb_52 x))))))))) (zg_ne rfl (zg_ne rfl rfl)) ?_
  refine zw_iload_n 112 f135_111 rfl rfl ?_
  refine zw_dup2 113 f135_112 rfl rfl rfl ?_
  refine zw_laload 4 0 114 f135_113 rfl (zg_ne rfl (zg_ne rfl (zg_ne rfl (zg_ne rfl (zg_ne rfl (zg_ne rfl (zg_ne rfl (zg_ne rfl (mb_63 x))))))))) (by decide +kernel) (by decide +kernel) (by decide +kernel) rfl ?_
  refine zw_aload_n 115 f135_114 rfl rfl ?_
  refine zw_getfield 118 f135_115 rfl g135_161_12 (zg_eq (zg_ne rfl (zg_ne rfl (zg_ne rfl (zg_ne rfl (zg_ne rfl (zg_ne rfl (zg_eq (mb_52 x))))))))) (zg_eq (zg_ne rfl rfl)) ?_
  refine zw_ldiv 0 119 f135_118 rfl (by decide +kernel) (by decide +kernel) ?_
  refine zw_lastoreS 4 120 f135_119 rfl (zg_ne rfl (zg_ne rfl (zg_ne rfl (zg_ne rfl (zg_ne rfl (zg_ne rfl (zg_ne rfl (zg_ne rfl (mb_63 x))))))))) (by decide +kernel) (by decide +kernel) (by decide +kernel) rfl ?_
  refine zw_iinc 5 [(1, .int 5), (0, .ref 52)] 123 f135_120 rfl rfl (by decide +kernel) (by decide +kernel) rfl ?_
  refine zw_goto 101 f135_123 (by decide +kernel) ?_
  refine zw_iload_n 102 f135_101 rfl rfl ?_
  refine zw_bipush 8 104 f135_102 rfl (by decide +kernel) ?_
  refine zw_ic_ge_f 107 126 f135_104 (by decide +kernel) rfl (by decide +kernel) ?_
  refine zw_aload_n 108 f135_107 rfl rfl ?_
  refine zw_getfield 111 f135_108 rfl g135_44_12 (zg_eq (zg_ne rfl (zg_ne rfl (zg_ne rfl (zg_ne rfl (zg_ne rfl (zg_ne rfl (zg_eq (mb_52 x))))))))) (zg_ne rfl (zg_ne rfl rfl)) ?_
  refine zw_iload_n 112 f135_111 rfl rfl ?_
  refine zw_dup2 113 f135_112 rfl rfl rfl ?_
  refine zw_laload 5 0 114 f135_113 rfl (zg_ne rfl (zg_ne rfl (zg_ne rfl (zg_ne rfl (zg_ne rfl (zg_ne rfl (zg_ne rfl (zg_ne rfl (mb_63 x))))))))) (by decide +kernel) (by decide +kernel) (by decide +kernel) rfl ?_
  refine zw_aload_n 115 f135_114 rfl rfl ?_
  refine zw_getfield 118 f135_115 rfl g135_161_12 (zg_eq (zg_ne rfl (zg_ne rfl (zg_ne rfl (zg_ne rfl (zg_ne rfl (zg_ne rfl (zg_eq (mb_52 x))))))))) (zg_eq (zg_ne rfl rfl)) ?_
  refine zw_ldiv 0 119 f135_118 rfl (by decide +kernel) (by decide +kernel) ?_
  refine zw_lastoreS 5 120 f135_119 rfl (zg_ne rfl (zg_ne rfl (zg_ne rfl (zg_ne rfl (zg_ne rfl (zg_ne rfl (zg_ne rfl (zg_ne rfl (mb_63 x))))))))) (by decide +kernel) (by decide +kernel) (by decide +kernel) rfl ?_
  refine zw_iinc 6 [(1, .int 6), (0, .ref 52)] 123 f135_120 rfl rfl (by decide +kernel) (by decide +kernel) rfl ?_
  refine zw_goto 101 f135_123 (by decide +kernel) ?_
  refine zw_iload_n 102 f135_101 rfl rfl ?_
  refine zw_bipush 8 104 f135_102 rfl (by decide +kernel) ?_
  refine zw_ic_ge_f 107 126 f135_104 (by decide +kernel) rfl (by decide +kernel) ?_
  refine zw_aload_n 108 f135_107 rfl rfl ?_
  refine zw_getfield 111 f135_108 rfl g135_44_12 (zg_eq (zg_ne rfl (zg_ne rfl (zg_ne rfl (zg_ne rfl (zg_ne rfl (zg_ne rfl (zg_eq (mb_52 x))))))))) (zg_ne rfl (zg_ne rfl rfl)) ?_
  refine zw_iload_n 112 f135_111 rfl rfl ?_
  refine zw_dup2 113 f135_112 rfl rfl rfl ?_
  refine zw_laload 6 0 114 f135_113 rfl (zg_ne rfl (zg_ne rfl (zg_ne rfl (zg_ne rfl (zg_ne rfl (zg_ne rfl (zg_ne rfl (zg_ne rfl (mb_63 x))))))))) (by decide +kernel) (by decide +kernel) (by decide +kernel) rfl ?_
  refine zw_aload_n 115 f135_114 rfl rfl ?_
  refine zw_getfield 118 f135_115 rfl g135_161_12 (zg_eq (zg_ne rfl (zg_ne rfl (zg_ne rfl (zg_ne rfl (zg_ne rfl (zg_ne rfl (zg_eq (mb_52 x))))))))) (zg_eq (zg_ne rfl rfl)) ?_
  refine zw_ldiv 0 119 f135_118 rfl (by decide +kernel) (by decide +kernel) ?_
  refine zw_lastoreS 6 120 f135_119 rfl (zg_ne rfl (zg_ne rfl (zg_ne rfl (zg_ne rfl (zg_ne rfl (zg_ne rfl (zg_ne rfl (zg_ne rfl (mb_63 x))))))))) (by decide +kernel) (by decide +kernel) (by decide +kernel) rfl ?_
  refine zw_iinc 7 [(1, .int 7), (0, .ref 52)] 123 f135_120 rfl rfl (by decide +kernel) (by decide +kernel) rfl ?_
  refine zw_goto 101 f135_123 (by decide +kernel) ?_
  refine zw_iload_n 102 f135_101 rfl rfl ?_
  refine zw_bipush 8 104 f135_102 rfl (by decide +kernel) ?_
  refine zw_ic_ge_f 107 126 f135_104 (by decide +kernel) rfl (by decide +kernel) ?_
  refine zw_aload_n 108 f135_107 rfl rfl ?_
  refine zw_getfield 111 f135_108 rfl g135_44_12 (zg_eq (zg_ne rfl (zg_ne rfl (zg_ne rfl (zg_ne rfl (zg_ne rfl (zg_ne rfl (zg_eq (mb_52 x))))))))) (zg_ne rfl (zg_ne rfl rfl)) ?_
  refine zw_iload_n 112 f135_111 rfl rfl ?_
  refine zw_dup2 113 f135_112 rfl rfl rfl ?_
  refine zw_laload 7 0 114 f135_113 rfl (zg_ne rfl (zg_ne rfl (zg_ne rfl (zg_ne rfl (zg_ne rfl (zg_ne rfl (zg_ne rfl (zg_ne rfl (mb_63 x))))))))) (by decide +kernel) (by decide +kernel) (by decide +kernel) rfl ?_
  refine zw_aload_n 115 f135_114 rfl rfl ?_
  refine zw_getfield 118 f135_115 rfl g135_161_12 (zg_eq (zg_ne rfl (zg_ne rfl (zg_ne rfl (zg_ne rfl (zg_ne rfl (zg_ne rfl (zg_eq (mb_52 x))))))))) (zg_eq (zg_ne rfl rfl)) ?_
  refine zw_ldiv 0 119 f135_118 rfl (by decide +kernel) (by decide +kernel) ?_
  refine zw_lastoreS 7 120 f135_119 rfl (zg_ne rfl (zg_ne rfl (zg_ne rfl (zg_ne rfl (zg_ne rfl (zg_ne rfl (zg_ne rfl (zg_ne rfl (mb_63 x))))))))) (by decide +kernel) (by decide +kernel) (by decide +kernel) rfl ?_
  refine zw_iinc 8 [(1, .int 8), (0, .ref 52)] 123 f135_120 rfl rfl (by decide +kernel) (by decide +kernel) rfl ?_
  refine zw_goto 101 f135_123 (by decide +kernel) ?_
  refine zw_iload_n 102 f135_101 rfl rfl ?_
  refine zw_bipush 8 104 f135_102 rfl (by decide +kernel) ?_
  refine zw_ic_ge_t 126 f135_104 (by decide +kernel) (by decide +kernel) ?_
  refine zw_aload_n 127 f135_126 rfl rfl ?_
  refine zw_dup 128 f135_127 rfl rfl ?_
  refine zw_getfield 131 f135_128 rfl g135_40_12 (zg_eq (zg_ne rfl (zg_ne rfl (zg_ne rfl (zg_ne rfl (zg_ne rfl (zg_ne rfl (zg_eq (mb_52 x))))))))) (zg_ne rfl (zg_ne rfl rfl)) ?_
  refine zw_aload_n 132 f135_131 rfl rfl ?_
  refine zw_getfield 135 f135_132 rfl g135_161_12 (zg_eq (zg_ne rfl (zg_ne rfl (zg_ne rfl (zg_ne rfl (zg_ne rfl (zg_ne rfl (zg_eq (mb_52 x))))))))) (zg_eq (zg_ne rfl rfl)) ?_
  refine zw_ldiv 1 136 f135_135 rfl (by decide +kernel) (by decide +kernel) ?_
  refine zw_putfieldS 139 f135_136 rfl g135_40_12 (zg_eq (zg_ne rfl (zg_ne rfl (zg_ne rfl (zg_ne rfl (zg_ne rfl (zg_ne rfl (zg_eq (mb_52 x))))))))) rfl (zg_ne rfl (zg_ne rfl rfl)) (by decide +kernel) ?_
  refine zw_vreturn f135_139 r135 u135 ⟨rfl, ?_⟩
  refine zw_vreturn f138_238 r138 u138 ⟨rfl, ?_⟩
  refine zw_aload_n 5 f140_4 rfl rfl ?_
  refine zw_iload_n 6 f140_5 rfl rfl ?_
  refine zw_virtual_i 9 0 0 [.ref 52, .int 0] [(0, .ref 52), (1, .int 0)] f140_6 rfl n140_205 k140_205_12 rfl (zg_eq (zg_ne rfl (zg_ne rfl (zg_ne rfl (zg_ne rfl (zg_ne rfl (zg_ne rfl (zg_eq (mb_52 x))))))))) (by decide +kernel) (Nat.le_of_ble_eq_true rfl) rfl rfl (by decide +kernel) (by decide +kernel) rfl (Nat.le_of_ble_eq_true rfl) rfl ?_
  refine zw_aload_n 1 f122_0 rfl rfl ?_
  refine zw_iconst 0 2 f122_1 rfl (by decide +kernel) ?_
  refine zw_putfieldS 5 f122_2 rfl g122_111_12 (zg_eq (zg_ne rfl (zg_ne rfl (zg_ne rfl (zg_ne rfl (zg_ne rfl (zg_ne rfl (zg_eq (mb_52 x))))))))) rfl (zg_ne rfl (zg_ne rfl rfl)) (by decide +kernel) ?_
  refine zw_iload_n 6 f122_5 rfl rfl ?_
  refine zw_ireturn f122_6 r122 u122 ⟨_, rfl, ?_⟩
  refine zw_ireturn f140_9 r140 u140 ⟨_, rfl, ?_⟩
  refine zw_ireturn f141_123 r141 u141 ?_
  exact rfl
set_option maxRecDepth 100000 in
set_option maxHeartbeats 0 in
theorem m_vessel_k4 (ro : UInt32 → Nat × (Nat → Int32)) (x : Nat → va_E) (b : Int32) (h3 : ¬ b < 1) (h4 : ¬ 200 < b) : zWp ro 141 0 [(0, .ref 52), (1, .int 4), (2, .int b)] [] (hMx x) 0 0 (fun r _ => r = some (.int 0)) := by
  refine zw_iload_n 1 f141_0 rfl rfl ?_
  refine zw_iconst 0 2 f141_1 rfl (by decide +kernel) ?_
  refine zw_iconst 4 3 f141_2 rfl (by decide +kernel) ?_
  refine zw_static_i 6 0 0 [.int 4, .int 0, .int 4] [] [(0, .int 4), (1, .int 0), (2, .int 4)] f141_3 rfl k141_117_99 rfl (by decide +kernel) (Nat.le_of_ble_eq_true rfl) (Nat.le_of_ble_eq_true rfl) rfl rfl (by decide +kernel) (by decide +kernel) rfl (Nat.le_of_ble_eq_true rfl) rfl ?_
  refine zw_iload_n 1 f120_0 rfl rfl ?_
  refine zw_iload_n 2 f120_1 rfl rfl ?_
  refine zw_ic_lt_f 5 14 f120_2 (by decide +kernel) rfl (by decide +kernel) ?_
  refine zw_iload_n 6 f120_5 rfl rfl ?_
  refine zw_iload_n 7 f120_6 rfl rfl ?_
  refine zw_ic_gt_f 10 14 f120_7 (by decide +kernel) rfl (by decide +kernel) ?_
  refine zw_iconst 1 11 f120_10 rfl (by decide +kernel) ?_
  refine zw_goto 15 f120_11 (by decide +kernel) ?_
  refine zw_zreturn f120_15 r120 u120 (by decide +kernel) ⟨_, rfl, ?_⟩
  refine zw_if_eq_f 9 20 f141_6 (by decide +kernel) rfl (by decide +kernel) ?_
  refine zw_iload_n 10 f141_9 rfl rfl ?_
  refine zw_iconst 1 11 f141_10 rfl (by decide +kernel) ?_
  refine zw_sipush 200 14 f141_11 rfl (by decide +kernel) ?_
  refine zw_static_i 17 0 0 [.int b, .int 1, .int 200] [] [(0, .int b), (1, .int 1), (2, .int 200)] f141_14 rfl k141_117_99 rfl (by decide +kernel) (Nat.le_of_ble_eq_true rfl) (Nat.le_of_ble_eq_true rfl) rfl rfl (by decide +kernel) (by decide +kernel) rfl (Nat.le_of_ble_eq_true rfl) rfl ?_
  refine zw_iload_n 1 f120_0 rfl rfl ?_
  refine zw_iload_n 2 f120_1 rfl rfl ?_
  refine zw_ic_lt_f 5 14 f120_2 (by decide +kernel) rfl h3 ?_
  refine zw_iload_n 6 f120_5 rfl rfl ?_
  refine zw_iload_n 7 f120_6 rfl rfl ?_
  refine zw_ic_gt_f 10 14 f120_7 (by decide +kernel) rfl h4 ?_
  refine zw_iconst 1 11 f120_10 rfl (by decide +kernel) ?_
  refine zw_goto 15 f120_11 (by decide +kernel) ?_
  refine zw_zreturn f120_15 r120 u120 (by decide +kernel) ⟨_, rfl, ?_⟩
  refine zw_if_ne_t 26 f141_17 (by decide +kernel) (by decide +kernel) ?_
  refine zw_aload_n 27 f141_26 rfl rfl ?_
  refine zw_getfield 30 f141_27 rfl g141_114_12 (mb_52 x) rfl ?_
  refine zw_bipush 8 32 f141_30 rfl (by decide +kernel) ?_
  refine zw_ic_ne_t 41 f141_32 (by decide +kernel) (by decide +kernel) ?_
  refine zw_aload_n 42 f141_41 rfl rfl ?_
  refine zw_getfield 45 f141_42 rfl g141_114_12 (mb_52 x) rfl ?_
  refine zw_istore_n [(3, .int 0), (0, .ref 52), (1, .int 4), (2, .int b)] 46 f141_45 rfl (by decide +kernel) rfl ?_
  refine zw_aload_n 47 f141_46 rfl rfl ?_
  refine zw_dup 48 f141_47 rfl rfl ?_
  refine zw_getfield 51 f141_48 rfl g141_114_12 (mb_52 x) rfl ?_
  refine zw_iconst 1 52 f141_51 rfl (by decide +kernel) ?_
  refine zw_iadd 1 53 f141_52 rfl (by decide +kernel) ?_
  refine zw_putfield 56 f141_53 rfl g141_114_12 (mb_52 x) rfl (zg_lt rfl) (by decide +kernel) ?_
  refine zw_aload_n 57 f141_56 rfl rfl ?_
  refine zw_getfield 60 f141_57 rfl g141_7_12 (zg_eq (mb_52 x)) (zg_ne rfl rfl) ?_
  refine zw_iload_n 61 f141_60 rfl rfl ?_
  refine zw_iload_n 62 f141_61 rfl rfl ?_
  refine zw_iastore 0 63 f141_62 rfl (zg_ne rfl (mb_53 x)) (by decide +kernel) (by decide +kernel) (by decide +kernel) ?_
  refine zw_aload_n 64 f141_63 rfl rfl ?_
  refine zw_getfield 67 f141_64 rfl g141_13_12 (zg_ne rfl (zg_eq (mb_52 x))) (zg_ne rfl rfl) ?_
  refine zw_iload_n 68 f141_67 rfl rfl ?_
  refine zw_iload_n 69 f141_68 rfl rfl ?_
  refine zw_iastore 0 70 f141_69 rfl (zg_ne rfl (zg_ne rfl (mb_54 x))) (by decide +kernel) (by decide +kernel) (by decide +kernel) ?_
  refine zw_aload_n 71 f141_70 rfl rfl ?_
  refine zw_getfield 74 f141_71 rfl g141_16_12 (zg_ne rfl (zg_ne rfl (zg_eq (mb_52 x)))) (zg_ne rfl rfl) ?_
  refine zw_iload_n 75 f141_74 rfl rfl ?_
  refine zw_iload_n 76 f141_75 rfl rfl ?_
  refine zw_if_eq_f 79 84 f141_76 (by decide +kernel) rfl (by decide +kernel) ?_
  refine zw_iload_n 80 f141_79 rfl rfl ?_
  refine zw_iconst 2 81 f141_80 rfl (by decide +kernel) ?_
  refine zw_ic_ne_t 88 f141_81 (by decide +kernel) (by decide +kernel) ?_
  refine zw_iload_n 89 f141_88 rfl rfl ?_
  refine zw_iastore 0 90 f141_89 rfl (zg_ne rfl (zg_ne rfl (zg_ne rfl (mb_55 x)))) (by decide +kernel) (by decide +kernel) (by decide +kernel) ?_
  refine zw_aload_n 91 f141_90 rfl rfl ?_
  refine zw_getfield 94 f141_91 rfl g141_19_12 (zg_ne rfl (zg_ne rfl (zg_ne rfl (zg_eq (mb_52 x))))) (zg_ne rfl rfl) ?_
  refine zw_iload_n 95 f141_94 rfl rfl ?_
  refine zw_iconst 0 96 f141_95 rfl (by decide +kernel) ?_
  refine zw_iastoreS 0 97 f141_96 rfl (zg_ne rfl (zg_ne rfl (zg_ne rfl (zg_ne rfl (mb_56 x))))) (by decide +kernel) (by decide +kernel) (by decide +kernel) rfl ?_
  refine zw_aload_n 98 f141_97 rfl rfl ?_
  refine zw_getfield 101 f141_98 rfl g141_22_12 (zg_ne rfl (zg_ne rfl (zg_ne rfl (zg_eq (mb_52 x))))) (zg_ne rfl rfl) ?_
  refine zw_iload_n 102 f141_101 rfl rfl ?_
  refine zw_iconst (-1) 103 f141_102 rfl (by decide +kernel) ?_
  refine zw_iastore 0 104 f141_103 rfl (zg_ne rfl (zg_ne rfl (zg_ne rfl (zg_ne rfl (mb_57 x))))) (by decide +kernel) (by decide +kernel) (by decide +kernel) ?_
  refine zw_aload_n 105 f141_104 rfl rfl ?_
  refine zw_getfield 108 f141_105 rfl g141_25_12 (zg_ne rfl (zg_ne rfl (zg_ne rfl (zg_ne rfl (zg_eq (mb_52 x)))))) (zg_ne rfl rfl) ?_
  refine zw_iload_n 109 f141_108 rfl rfl ?_
  refine zw_iconst (-1) 110 f141_109 rfl (by decide +kernel) ?_
  refine zw_iastore 0 111 f141_110 rfl (zg_ne rfl (zg_ne rfl (zg_ne rfl (zg_ne rfl (zg_ne rfl (mb_58 x)))))) (by decide +kernel) (by decide +kernel) (by decide +kernel) ?_
  refine zw_aload_n 112 f141_111 rfl rfl ?_
  refine zw_getfield 115 f141_112 rfl g141_28_12 (zg_ne rfl (zg_ne rfl (zg_ne rfl (zg_ne rfl (zg_ne rfl (zg_eq (mb_52 x))))))) (zg_ne rfl rfl) ?_
  refine zw_iload_n 116 f141_115 rfl rfl ?_
  refine zw_iconst (-1) 117 f141_116 rfl (by decide +kernel) ?_
  refine zw_iastore 0 118 f141_117 rfl (zg_ne rfl (zg_ne rfl (zg_ne rfl (zg_ne rfl (zg_ne rfl (zg_ne rfl (mb_59 x))))))) (by decide +kernel) (by decide +kernel) (by decide +kernel) ?_
  refine zw_aload_n 119 f141_118 rfl rfl ?_
  refine zw_iload_n 120 f141_119 rfl rfl ?_
  refine zw_virtual_i 123 0 0 [.ref 52, .int 0] [(0, .ref 52), (1, .int 0)] f141_120 rfl n141_212 k141_212_12 rfl (zg_ne rfl (zg_ne rfl (zg_ne rfl (zg_ne rfl (zg_ne rfl (zg_ne rfl (zg_eq (mb_52 x)))))))) (by decide +kernel) (Nat.le_of_ble_eq_true rfl) rfl rfl (by decide +kernel) (by decide +kernel) rfl (Nat.le_of_ble_eq_true rfl) rfl ?_
  refine zw_aload_n 1 f140_0 rfl rfl ?_
  refine zw_virtual_v 4 0 0 [.ref 52] [(0, .ref 52)] f140_1 rfl n140_202 k140_202_12 rfl (zg_ne rfl (zg_ne rfl (zg_ne rfl (zg_ne rfl (zg_ne rfl (zg_ne rfl (zg_eq (mb_52 x)))))))) (by decide +kernel) (Nat.le_of_ble_eq_true rfl) rfl rfl (by decide +kernel) (by decide +kernel) rfl (Nat.le_of_ble_eq_true rfl) rfl ?_
  refine zw_iconst 0 1 f138_0 rfl (by decide +kernel) ?_
  refine zw_istore_n [(1, .int 0), (0, .ref 52)] 2 f138_1 rfl (by decide +kernel) rfl ?_
  refine zw_iload_n 3 f138_2 rfl rfl ?_
  refine zw_aload_n 4 f138_3 rfl rfl ?_
  refine zw_getfield 7 f138_4 rfl g138_114_12 (zg_ne rfl (zg_ne rfl (zg_ne rfl (zg_ne rfl (zg_ne rfl (zg_ne rfl (zg_eq (mb_52 x)))))))) (zg_eq rfl) ?_
  refine zw_ic_ge_f 10 79 f138_7 (by decide +kernel) rfl (by decide +kernel) ?_
  refine zw_aload_n 11 f138_10 rfl rfl ?_
  refine zw_getfield 14 f138_11 rfl g138_7_12 (zg_ne rfl (zg_ne rfl (zg_ne rfl (zg_ne rfl (zg_ne rfl (zg_ne rfl (zg_eq (mb_52 x)))))))) (zg_ne rfl rfl) ?_
  refine zw_iload_n 15 f138_14 rfl rfl ?_
  refine zw_iaload 0 4 16 f138_15 rfl (zg_ne rfl (zg_ne rfl (zg_ne rfl (zg_ne rfl (zg_ne rfl (zg_eq (zg_ne rfl (mb_53 x)))))))) (by decide +kernel) (by decide +kernel) (by decide +kernel) rfl ?_
  refine zw_iconst 2 17 f138_16 rfl (by decide +kernel) ?_
  refine zw_ic_ne_t 73 f138_17 (by decide +kernel) (by decide +kernel) ?_
  refine zw_iinc 1 [(1, .int 1), (0, .ref 52)] 76 f138_73 rfl rfl (by decide +kernel) (by decide +kernel) rfl ?_
  refine zw_goto 2 f138_76 (by decide +kernel) ?_
  refine zw_iload_n 3 f138_2 rfl rfl ?_
  refine zw_aload_n 4 f138_3 rfl rfl ?_
  refine zw_getfield 7 f138_4 rfl g138_114_12 (zg_ne rfl (zg_ne rfl (zg_ne rfl (zg_ne rfl (zg_ne rfl (zg_ne rfl (zg_eq (mb_52 x)))))))) (zg_eq rfl) ?_
  refine zw_ic_ge_t 79 f138_7 (by decide +kernel) (by decide +kernel) ?_
  refine zw_iconst 0 80 f138_79 rfl (by decide +kernel) ?_
  refine zw_istore_n [(1, .int 0), (0, .ref 52)] 81 f138_80 rfl (by decide +kernel) rfl ?_
  refine zw_iload_n 82 f138_81 rfl rfl ?_
  refine zw_aload_n 83 f138_82 rfl rfl ?_
  refine zw_getfield 86 f138_83 rfl g138_114_12 (zg_ne rfl (zg_ne rfl (zg_ne rfl (zg_ne rfl (zg_ne rfl (zg_ne rfl (zg_eq (mb_52 x)))))))) (zg_eq rfl) ?_
  refine zw_ic_ge_f 89 195 f138_86 (by decide +kernel) rfl (by decide +kernel) ?_
  refine zw_aload_n 90 f138_89 rfl rfl ?_
  refine zw_getfield 93 f138_90 rfl g138_7_12 (zg_ne rfl (zg_ne rfl (zg_ne rfl (zg_ne rfl (zg_ne rfl (zg_ne rfl (zg_eq (mb_52 x)))))))) (zg_ne rfl rfl) ?_
  refine zw_iload_n 94 f138_93 rfl rfl ?_
  refine zw_iaload 0 4 95 f138_94 rfl (zg_ne rfl (zg_ne rfl (zg_ne rfl (zg_ne rfl (zg_ne rfl (zg_eq (zg_ne rfl (mb_53 x)))))))) (by decide +kernel) (by decide +kernel) (by decide +kernel) rfl ?_
  refine zw_iconst 1 96 f138_95 rfl (by decide +kernel) ?_
  refine zw_ic_ne_t 146 f138_96 (by decide +kernel) (by decide +kernel) ?_
  refine zw_aload_n 147 f138_146 rfl rfl ?_
  refine zw_getfield 150 f138_147 rfl g138_7_12 (zg_ne rfl (zg_ne rfl (zg_ne rfl (zg_ne rfl (zg_ne rfl (zg_ne rfl (zg_eq (mb_52 x)))))))) (zg_ne rfl rfl) ?_
  refine zw_iload_n 151 f138_150 rfl rfl ?_
  refine zw_iaload 0 4 152 f138_151 rfl (zg_ne rfl (zg_ne rfl (zg_ne rfl (zg_ne rfl (zg_ne rfl (zg_eq (zg_ne rfl (mb_53 x)))))))) (by decide +kernel) (by decide +kernel) (by decide +kernel) rfl ?_
  refine zw_iconst 1 153 f138_152 rfl (by decide +kernel) ?_
  refine zw_ic_ne_t 189 f138_153 (by decide +kernel) (by decide +kernel) ?_
  refine zw_iinc 1 [(1, .int 1), (0, .ref 52)] 192 f138_189 rfl rfl (by decide +kernel) (by decide +kernel) rfl ?_
  refine zw_goto 81 f138_192 (by decide +kernel) ?_
  refine zw_iload_n 82 f138_81 rfl rfl ?_
  refine zw_aload_n 83 f138_82 rfl rfl ?_
  refine zw_getfield 86 f138_83 rfl g138_114_12 (zg_ne rfl (zg_ne rfl (zg_ne rfl (zg_ne rfl (zg_ne rfl (zg_ne rfl (zg_eq (mb_52 x)))))))) (zg_eq rfl) ?_
  refine zw_ic_ge_t 195 f138_86 (by decide +kernel) (by decide +kernel) ?_
  refine zw_iconst 0 196 f138_195 rfl (by decide +kernel) ?_
  refine zw_istore_n [(1, .int 0), (0, .ref 52)] 197 f138_196 rfl (by decide +kernel) rfl ?_
  refine zw_iload_n 198 f138_197 rfl rfl ?_
  refine zw_aload_n 199 f138_198 rfl rfl ?_
  refine zw_getfield 202 f138_199 rfl g138_114_12 (zg_ne rfl (zg_ne rfl (zg_ne rfl (zg_ne rfl (zg_ne rfl (zg_ne rfl (zg_eq (mb_52 x)))))))) (zg_eq rfl) ?_
  refine zw_ic_ge_f 205 234 f138_202 (by decide +kernel) rfl (by decide +kernel) ?_
  refine zw_aload_n 206 f138_205 rfl rfl ?_
  refine zw_iload_n 207 f138_206 rfl rfl ?_
  refine zw_virtual_i 210 0 0 [.ref 52, .int 0] [(0, .ref 52), (1, .int 0)] f138_207 rfl n138_158 k138_158_12 rfl (zg_ne rfl (zg_ne rfl (zg_ne rfl (zg_ne rfl (zg_ne rfl (zg_ne rfl (zg_eq (mb_52 x)))))))) (by decide +kernel) (Nat.le_of_ble_eq_true rfl) rfl rfl (by decide +kernel) (by decide +kernel) rfl (Nat.le_of_ble_eq_true rfl) rfl ?_
  refine zw_aload_n 1 f126_0 rfl rfl ?_
  refine zw_getfield 4 f126_1 rfl g126_7_12 (zg_ne rfl (zg_ne rfl (zg_ne rfl (zg_ne rfl (zg_ne rfl (zg_ne rfl (zg_eq (mb_52 x)))))))) (zg_ne rfl rfl) ?_
  refine zw_iload_n 5 f126_4 rfl rfl ?_
  refine zw_iaload 0 4 6 f126_5 rfl (zg_ne rfl (zg_ne rfl (zg_ne rfl (zg_ne rfl (zg_ne rfl (zg_eq (zg_ne rfl (mb_53 x)))))))) (by decide +kernel) (by decide +kernel) (by decide +kernel) rfl ?_
  refine zw_iconst 3 7 f126_6 rfl (by decide +kernel) ?_
  refine zw_ic_eq_f 10 20 f126_7 (by decide +kernel) rfl (by decide +kernel) ?_
  refine zw_aload_n 11 f126_10 rfl rfl ?_
  refine zw_getfield 14 f126_11 rfl g126_7_12 (zg_ne rfl (zg_ne rfl (zg_ne rfl (zg_ne rfl (zg_ne rfl (zg_ne rfl (zg_eq (mb_52 x)))))))) (zg_ne rfl rfl) ?_
  refine zw_iload_n 15 f126_14 rfl rfl ?_
  refine zw_iaload 0 4 16 f126_15 rfl (zg_ne rfl (zg_ne rfl (zg_ne rfl (zg_ne rfl (zg_ne rfl (zg_eq (zg_ne rfl (mb_53 x)))))))) (by decide +kernel) (by decide +kernel) (by decide +kernel) rfl ?_
  refine zw_iconst 4 17 f126_16 rfl (by decide +kernel) ?_
  refine zw_ic_ne_f 20 24 f126_17 (by decide +kernel) rfl (by decide +kernel) ?_
  refine zw_iconst 1 21 f126_20 rfl (by decide +kernel) ?_
  refine zw_goto 25 f126_21 (by decide +kernel) ?_
  refine zw_zreturn f126_25 r126 u126 (by decide +kernel) ⟨_, rfl, ?_⟩
  refine zw_if_eq_f 213 228 f138_210 (by decide +kernel) rfl (by decide +kernel) ?_
  refine zw_aload_n 214 f138_213 rfl rfl ?_
  refine zw_getfield 217 f138_214 rfl g138_22_12 (zg_ne rfl (zg_ne rfl (zg_ne rfl (zg_ne rfl (zg_ne rfl (zg_ne rfl (zg_eq (mb_52 x)))))))) (zg_ne rfl rfl) ?_
  refine zw_iload_n 218 f138_217 rfl rfl ?_
  refine zw_iaload 0 (-1) 219 f138_218 rfl (zg_ne rfl (zg_ne rfl (zg_eq (zg_ne rfl (zg_ne rfl (zg_ne rfl (zg_ne rfl (mb_57 x)))))))) (by decide +kernel) (by decide +kernel) (by decide +kernel) rfl ?_
  refine zw_iconst (-1) 220 f138_219 rfl (by decide +kernel) ?_
  refine zw_ic_eq_t 228 f138_220 (by decide +kernel) (by decide +kernel) ?_
  refine zw_iinc 1 [(1, .int 1), (0, .ref 52)] 231 f138_228 rfl rfl (by decide +kernel) (by decide +kernel) rfl ?_
  refine zw_goto 197 f138_231 (by decide +kernel) ?_
  refine zw_iload_n 198 f138_197 rfl rfl ?_
  refine zw_aload_n 199 f138_198 rfl rfl ?_
  refine zw_getfield 202 f138_199 rfl g138_114_12 (zg_ne rfl (zg_ne rfl (zg_ne rfl (zg_ne rfl (zg_ne rfl (zg_ne rfl (zg_eq (mb_52 x)))))))) (zg_eq rfl) ?_
  refine zw_ic_ge_t 234 f138_202 (by decide +kernel) (by decide +kernel) ?_
  refine zw_aload_n 235 f138_234 rfl rfl ?_
  refine zw_virtual_v 238 0 0 [.ref 52] [(0, .ref 52)] f138_235 rfl n138_199 k138_199_12 rfl (zg_ne rfl (zg_ne rfl (zg_ne rfl (zg_ne rfl (zg_ne rfl (zg_ne rfl (zg_eq (mb_52 x)))))))) (by decide +kernel) (Nat.le_of_ble_eq_true rfl) rfl rfl (by decide +kernel) (by decide +kernel) rfl (Nat.le_of_ble_eq_true rfl) rfl ?_
  refine zw_aload_n 1 f135_0 rfl rfl ?_
  refine zw_aload_n 2 f135_1 rfl rfl ?_
  refine zw_getfield 5 f135_2 rfl g135_172_12 (zg_ne rfl (zg_ne rfl (zg_ne rfl (zg_ne rfl (zg_ne rfl (zg_ne rfl (zg_eq (mb_52 x)))))))) (zg_ne rfl rfl) ?_
  refine zw_aload_n 6 f135_5 rfl rfl ?_
  refine zw_getfield 9 f135_6 rfl g135_175_12 (zg_ne rfl (zg_ne rfl (zg_ne rfl (zg_ne rfl (zg_ne rfl (zg_ne rfl (zg_eq (mb_52 x)))))))) (zg_ne rfl rfl) ?_
  refine zw_aload_n 10 f135_9 rfl rfl ?_
  refine zw_getfield 13 f135_10 rfl g135_178_12 (zg_ne rfl (zg_ne rfl (zg_ne rfl (zg_ne rfl (zg_ne rfl (zg_ne rfl (zg_eq (mb_52 x)))))))) (zg_ne rfl rfl) ?_
  refine zw_aload_n 14 f135_13 rfl rfl ?_
  refine zw_getfield 17 f135_14 rfl g135_40_12 (zg_ne rfl (zg_ne rfl (zg_ne rfl (zg_ne rfl (zg_ne rfl (zg_ne rfl (zg_eq (mb_52 x)))))))) (zg_ne rfl rfl) ?_
  refine zw_static_l 20 0 0 [.long 0, .long 1] [.long 0, .long 0, .ref 52] [(0, .long 0), (2, .long 1)] f135_17 rfl k135_164_99 rfl (by decide +kernel) (Nat.le_of_ble_eq_true rfl) (Nat.le_of_ble_eq_true rfl) rfl rfl (by decide +kernel) (by decide +kernel) rfl (Nat.le_of_ble_eq_true rfl) rfl ?_
  refine zw_lload_n 1 f125_0 rfl rfl ?_
  refine zw_lconst 0 2 f125_1 rfl (by decide +kernel) ?_
  refine zw_lcmp 0 3 f125_2 rfl (by decide +kernel) ?_
  refine zw_if_ge_t 11 f125_3 (by decide +kernel) (by decide +kernel) ?_
  refine zw_lload_n 12 f125_11 rfl rfl ?_
  refine zw_lstore [(4, .long 0), (0, .long 0), (2, .long 1)] 14 f125_12 rfl (by decide +kernel) rfl ?_
  refine zw_lload_n 15 f125_14 rfl rfl ?_
  refine zw_lstore [(6, .long 1), (4, .long 0), (0, .long 0), (2, .long 1)] 17 f125_15 rfl (by decide +kernel) rfl ?_
  refine zw_lload 19 f125_17 rfl rfl ?_
  refine zw_lconst 0 20 f125_19 rfl (by decide +kernel) ?_
  refine zw_lcmp 1 21 f125_20 rfl (by decide +kernel) ?_
  refine zw_if_eq_f 24 42 f125_21 (by decide +kernel) rfl (by decide +kernel) ?_
  refine zw_lload 26 f125_24 rfl rfl ?_
  refine zw_lload 28 f125_26 rfl rfl ?_
  refine zw_lrem 0 29 f125_28 rfl (by decide +kernel) (by decide +kernel) ?_
  refine zw_lstore [(8, .long 0), (6, .long 1), (4, .long 0), (0, .long 0), (2, .long 1)] 31 f125_29 rfl (by decide +kernel) rfl ?_
  refine zw_lload 33 f125_31 rfl rfl ?_
  refine zw_lstore [(4, .long 1), (8, .long 0), (6, .long 1), (0, .long 0), (2, .long 1)] 35 f125_33 rfl (by decide +kernel) rfl ?_
  refine zw_lload 37 f125_35 rfl rfl ?_
  refine zw_lstore [(6, .long 0), (4, .long 1), (8, .long 0), (0, .long 0), (2, .long 1)] 39 f125_37 rfl (by decide +kernel) rfl ?_
  refine zw_goto 17 f125_39 (by decide +kernel) ?_
  refine zw_lload 19 f125_17 rfl rfl ?_
  refine zw_lconst 0 20 f125_19 rfl (by decide +kernel) ?_
  refine zw_lcmp 0 21 f125_20 rfl (by decide +kernel) ?_
  refine zw_if_eq_t 42 f125_21 (by decide +kernel) (by decide +kernel) ?_
  refine zw_lload 44 f125_42 rfl rfl ?_
  refine zw_lreturn f125_44 r125 u125 ⟨_, rfl, ?_⟩
  refine zw_static_l 23 0 0 [.long 0, .long 1] [.long 0, .ref 52] [(0, .long 0), (2, .long 1)] f135_20 rfl k135_164_99 rfl (by decide +kernel) (Nat.le_of_ble_eq_true rfl) (Nat.le_of_ble_eq_true rfl) rfl rfl (by decide +kernel) (by decide +kernel) rfl (Nat.le_of_ble_eq_true rfl) rfl ?_
  refine zw_lload_n 1 f125_0 rfl rfl ?_
  refine zw_lconst 0 2 f125_1 rfl (by decide +kernel) ?_
  refine zw_lcmp 0 3 f125_2 rfl (by decide +kernel) ?_
  refine zw_if_ge_t 11 f125_3 (by decide +kernel) (by decide +kernel) ?_
  refine zw_lload_n 12 f125_11 rfl rfl ?_
  refine zw_lstore [(4, .long 0), (0, .long 0), (2, .long 1)] 14 f125_12 rfl (by decide +kernel) rfl ?_
  refine zw_lload_n 15 f125_14 rfl rfl ?_
  refine zw_lstore [(6, .long 1), (4, .long 0), (0, .long 0), (2, .long 1)] 17 f125_15 rfl (by decide +kernel) rfl ?_
  refine zw_lload 19 f125_17 rfl rfl ?_
  refine zw_lconst 0 20 f125_19 rfl (by decide +kernel) ?_
  refine zw_lcmp 1 21 f125_20 rfl (by decide +kernel) ?_
  refine zw_if_eq_f 24 42 f125_21 (by decide +kernel) rfl (by decide +kernel) ?_
  refine zw_lload 26 f125_24 rfl rfl ?_
  refine zw_lload 28 f125_26 rfl rfl ?_
  refine zw_lrem 0 29 f125_28 rfl (by decide +kernel) (by decide +kernel) ?_
  refine zw_lstore [(8, .long 0), (6, .long 1), (4, .long 0), (0, .long 0), (2, .long 1)] 31 f125_29 rfl (by decide +kernel) rfl ?_
  refine zw_lload 33 f125_31 rfl rfl ?_
  refine zw_lstore [(4, .long 1), (8, .long 0), (6, .long 1), (0, .long 0), (2, .long 1)] 35 f125_33 rfl (by decide +kernel) rfl ?_
  refine zw_lload 37 f125_35 rfl rfl ?_
  refine zw_lstore [(6, .long 0), (4, .long 1), (8, .long 0), (0, .long 0), (2, .long 1)] 39 f125_37 rfl (by decide +kernel) rfl ?_
  refine zw_goto 17 f125_39 (by decide +kernel) ?_
  refine zw_lload 19 f125_17 rfl rfl ?_
  refine zw_lconst 0 20 f125_19 rfl (by decide +kernel) ?_
  refine zw_lcmp 0 21 f125_20 rfl (by decide +kernel) ?_
  refine zw_if_eq_t 42 f125_21 (by decide +kernel) (by decide +kernel) ?_
  refine zw_lload 44 f125_42 rfl rfl ?_
  refine zw_lreturn f125_44 r125 u125 ⟨_, rfl, ?_⟩
  refine zw_static_l 26 0 0 [.long 0, .long 1] [.ref 52] [(0, .long 0), (2, .long 1)] f135_23 rfl k135_164_99 rfl (by decide +kernel) (Nat.le_of_ble_eq_true rfl) (Nat.le_of_ble_eq_true rfl) rfl rfl (by decide +kernel) (by decide +kernel) rfl (Nat.le_of_ble_eq_true rfl) rfl ?_
  refine zw_lload_n 1 f125_0 rfl rfl ?_
  refine zw_lconst 0 2 f125_1 rfl (by decide +kernel) ?_
  refine zw_lcmp 0 3 f125_2 rfl (by decide +kernel) ?_
  refine zw_if_ge_t 11 f125_3 (by decide +kernel) (by decide +kernel) ?_
  refine zw_lload_n 12 f125_11 rfl rfl ?_
  refine zw_lstore [(4, .long 0), (0, .long 0), (2, .long 1)] 14 f125_12 rfl (by decide +kernel) rfl ?_
  refine zw_lload_n 15 f125_14 rfl rfl ?_
  refine zw_lstore [(6, .long 1), (4, .long 0), (0, .long 0), (2, .long 1)] 17 f125_15 rfl (by decide +kernel) rfl ?_
  refine zw_lload 19 f125_17 rfl rfl ?_
  refine zw_lconst 0 20 f125_19 rfl (by decide +kernel) ?_
  refine zw_lcmp 1 21 f125_20 rfl (by decide +kernel) ?_
  refine zw_if_eq_f 24 42 f125_21 (by decide +kernel) rfl (by decide +kernel) ?_
  refine zw_lload 26 f125_24 rfl rfl ?_
  refine zw_lload 28 f125_26 rfl rfl ?_
  refine zw_lrem 0 29 f125_28 rfl (by decide +kernel) (by decide +kernel) ?_
  refine zw_lstore [(8, .long 0), (6, .long 1), (4, .long 0), (0, .long 0), (2, .long 1)] 31 f125_29 rfl (by decide +kernel) rfl ?_
  refine zw_lload 33 f125_31 rfl rfl ?_
  refine zw_lstore [(4, .long 1), (8, .long 0), (6, .long 1), (0, .long 0), (2, .long 1)] 35 f125_33 rfl (by decide +kernel) rfl ?_
  refine zw_lload 37 f125_35 rfl rfl ?_
  refine zw_lstore [(6, .long 0), (4, .long 1), (8, .long 0), (0, .long 0), (2, .long 1)] 39 f125_37 rfl (by decide +kernel) rfl ?_
  refine zw_goto 17 f125_39 (by decide +kernel) ?_
  refine zw_lload 19 f125_17 rfl rfl ?_
  refine zw_lconst 0 20 f125_19 rfl (by decide +kernel) ?_
  refine zw_lcmp 0 21 f125_20 rfl (by decide +kernel) ?_
  refine zw_if_eq_t 42 f125_21 (by decide +kernel) (by decide +kernel) ?_
  refine zw_lload 44 f125_42 rfl rfl ?_
  refine zw_lreturn f125_44 r125 u125 ⟨_, rfl, ?_⟩
  refine zw_putfield 29 f135_26 rfl g135_161_12 (zg_ne rfl (zg_ne rfl (zg_ne rfl (zg_ne rfl (zg_ne rfl (zg_ne rfl (zg_eq (mb_52 x)))))))) rfl (zg_lt (zg_ne rfl rfl)) (by decide +kernel) ?_
  refine zw_iconst 0 30 f135_29 rfl (by decide +kernel) ?_
  refine zw_istore_n [(1, .int 0), (0, .ref 52)] 31 f135_30 rfl (by decide +kernel) rfl ?_
  refine zw_iload_n 32 f135_31 rfl rfl ?_
  refine zw_bipush 8 34 f135_32 rfl (by decide +kernel) ?_
  refine zw_ic_ge_f 37 60 f135_34 (by decide +kernel) rfl (by decide +kernel) ?_
  refine zw_aload_n 38 f135_37 rfl rfl ?_
  refine zw_aload_n 39 f135_38 rfl rfl ?_
  refine zw_getfield 42 f135_39 rfl g135_44_12 (zg_eq (zg_ne rfl (zg_ne rfl (zg_ne rfl (zg_ne rfl (zg_ne rfl (zg_ne rfl (zg_eq (mb_52 x))))))))) (zg_ne rfl (zg_ne rfl rfl)) ?_
  refine zw_iload_n 43 f135_42 rfl rfl ?_
  refine zw_laload 0 0 44 f135_43 rfl (zg_ne rfl (zg_ne rfl (zg_ne rfl (zg_ne rfl (zg_ne rfl (zg_ne rfl (zg_ne rfl (zg_ne rfl (mb_63 x))))))))) (by decide +kernel) (by decide +kernel) (by decide +kernel) rfl ?_
  refine zw_aload_n 45 f135_44 rfl rfl ?_
  refine zw_getfield 48 f135_45 rfl g135_161_12 (zg_eq (zg_ne rfl (zg_ne rfl (zg_ne rfl (zg_ne rfl (zg_ne rfl (zg_ne rfl (zg_eq (mb_52 x))))))))) (zg_eq (zg_ne rfl rfl)) ?_
  refine zw_static_l 51 0 0 [.long 0, .long 1] [.ref 52] [(0, .long 0), (2, .long 1)] f135_48 rfl k135_164_99 rfl (by decide +kernel) (Nat.le_of_ble_eq_true rfl) (Nat.le_of_ble_eq_true rfl) rfl rfl (by decide +kernel) (by decide +kernel) rfl (Nat.le_of_ble_eq_true rfl) rfl ?_
  refine zw_lload_n 1 f125_0 rfl rfl ?_
  refine zw_lconst 0 2 f125_1 rfl (by decide +kernel) ?_
  refine zw_lcmp 0 3 f125_2 rfl (by decide +kernel) ?_
  refine zw_if_ge_t 11 f125_3 (by decide +kernel) (by decide +kernel) ?_
  refine zw_lload_n 12 f125_11 rfl rfl ?_
  refine zw_lstore [(4, .long 0), (0, .long 0), (2, .long 1)] 14 f125_12 rfl (by decide +kernel) rfl ?_
  refine zw_lload_n 15 f125_14 rfl rfl ?_
  refine zw_lstore [(6, .long 1), (4, .long 0), (0, .long 0), (2, .long 1)] 17 f125_15 rfl (by decide +kernel) rfl ?_
  refine zw_lload 19 f125_17 rfl rfl ?_
  refine zw_lconst 0 20 f125_19 rfl (by decide +kernel) ?_
  refine zw_lcmp 1 21 f125_20 rfl (by decide +kernel) ?_
  refine zw_if_eq_f 24 42 f125_21 (by decide +kernel) rfl (by decide +kernel) ?_
  refine zw_lload 26 f125_24 rfl rfl ?_
  refine zw_lload 28 f125_26 rfl rfl ?_
  refine zw_lrem 0 29 f125_28 rfl (by decide +kernel) (by decide +kernel) ?_
  refine zw_lstore [(8, .long 0), (6, .long 1), (4, .long 0), (0, .long 0), (2, .long 1)] 31 f125_29 rfl (by decide +kernel) rfl ?_
  refine zw_lload 33 f125_31 rfl rfl ?_
  refine zw_lstore [(4, .long 1), (8, .long 0), (6, .long 1), (0, .long 0), (2, .long 1)] 35 f125_33 rfl (by decide +kernel) rfl ?_
  refine zw_lload 37 f125_35 rfl rfl ?_
  refine zw_lstore [(6, .long 0), (4, .long 1), (8, .long 0), (0, .long 0), (2, .long 1)] 39 f125_37 rfl (by decide +kernel) rfl ?_
  refine zw_goto 17 f125_39 (by decide +kernel) ?_
  refine zw_lload 19 f125_17 rfl rfl ?_
  refine zw_lconst 0 20 f125_19 rfl (by decide +kernel) ?_
  refine zw_lcmp 0 21 f125_20 rfl (by decide +kernel) ?_
  refine zw_if_eq_t 42 f125_21 (by decide +kernel) (by decide +kernel) ?_
  refine zw_lload 44 f125_42 rfl rfl ?_
  refine zw_lreturn f125_44 r125 u125 ⟨_, rfl, ?_⟩
  refine zw_putfieldS 54 f135_51 rfl g135_161_12 (zg_eq (zg_ne rfl (zg_ne rfl (zg_ne rfl (zg_ne rfl (zg_ne rfl (zg_ne rfl (zg_eq (mb_52 x))))))))) rfl (zg_eq (zg_ne rfl rfl)) (by decide +kernel) ?_
  refine zw_iinc 1 [(1, .int 1), (0, .ref 52)] 57 f135_54 rfl rfl (by decide +kernel) (by decide +kernel) rfl ?_
  refine zw_goto 31 f135_57 (by decide +kernel) ?_
  refine zw_iload_n 32 f135_31 rfl rfl ?_
  refine zw_bipush 8 34 f135_32 rfl (by decide +kernel) ?_
  refine zw_ic_ge_f 37 60 f135_34 (by decide +kernel) rfl (by decide +kernel) ?_
  refine zw_aload_n 38 f135_37 rfl rfl ?_
  refine zw_aload_n 39 f135_38 rfl rfl ?_
  refine zw_getfield 42 f135_39 rfl g135_44_12 (zg_eq (zg_ne rfl (zg_ne rfl (zg_ne rfl (zg_ne rfl (zg_ne rfl (zg_ne rfl (zg_eq (mb_52 x))))))))) (zg_ne rfl (zg_ne rfl rfl)) ?_
  refine zw_iload_n 43 f135_42 rfl rfl ?_
  refine zw_laload 1 0 44 f135_43 rfl (zg_ne rfl (zg_ne rfl (zg_ne rfl (zg_ne rfl (zg_ne rfl (zg_ne rfl (zg_ne rfl (zg_ne rfl (mb_63 x))))))))) (by decide +kernel) (by decide +kernel) (by decide +kernel) rfl ?_
  refine zw_aload_n 45 f135_44 rfl rfl ?_
  refine zw_getfield 48 f135_45 rfl g135_161_12 (zg_eq (zg_ne rfl (zg_ne rfl (zg_ne rfl (zg_ne rfl (zg_ne rfl (zg_ne rfl (zg_eq (mb_52 x))))))))) (zg_eq (zg_ne rfl rfl)) ?_
  refine zw_static_l 51 0 0 [.long 0, .long 1] [.ref 52] [(0, .long 0), (2, .long 1)] f135_48 rfl k135_164_99 rfl (by decide +kernel) (Nat.le_of_ble_eq_true rfl) (Nat.le_of_ble_eq_true rfl) rfl rfl (by decide +kernel) (by decide +kernel) rfl (Nat.le_of_ble_eq_true rfl) rfl ?_
  refine zw_lload_n 1 f125_0 rfl rfl ?_
  refine zw_lconst 0 2 f125_1 rfl (by decide +kernel) ?_
  refine zw_lcmp 0 3 f125_2 rfl (by decide +kernel) ?_
  refine zw_if_ge_t 11 f125_3 (by decide +kernel) (by decide +kernel) ?_
  refine zw_lload_n 12 f125_11 rfl rfl ?_
  refine zw_lstore [(4, .long 0), (0, .long 0), (2, .long 1)] 14 f125_12 rfl (by decide +kernel) rfl ?_
  refine zw_lload_n 15 f125_14 rfl rfl ?_
  refine zw_lstore [(6, .long 1), (4, .long 0), (0, .long 0), (2, .long 1)] 17 f125_15 rfl (by decide +kernel) rfl ?_
  refine zw_lload 19 f125_17 rfl rfl ?_
  refine zw_lconst 0 20 f125_19 rfl (by decide +kernel) ?_
  refine zw_lcmp 1 21 f125_20 rfl (by decide +kernel) ?_
  refine zw_if_eq_f 24 42 f125_21 (by decide +kernel) rfl (by decide +kernel) ?_
  refine zw_lload 26 f125_24 rfl rfl ?_
  refine zw_lload 28 f125_26 rfl rfl ?_
  refine zw_lrem 0 29 f125_28 rfl (by decide +kernel) (by decide +kernel) ?_
  refine zw_lstore [(8, .long 0), (6, .long 1), (4, .long 0), (0, .long 0), (2, .long 1)] 31 f125_29 rfl (by decide +kernel) rfl ?_
  refine zw_lload 33 f125_31 rfl rfl ?_
  refine zw_lstore [(4, .long 1), (8, .long 0), (6, .long 1), (0, .long 0), (2, .long 1)] 35 f125_33 rfl (by decide +kernel) rfl ?_
  refine zw_lload 37 f125_35 rfl rfl ?_
  refine zw_lstore [(6, .long 0), (4, .long 1), (8, .long 0), (0, .long 0), (2, .long 1)] 39 f125_37 rfl (by decide +kernel) rfl ?_
  refine zw_goto 17 f125_39 (by decide +kernel) ?_
  refine zw_lload 19 f125_17 rfl rfl ?_
  refine zw_lconst 0 20 f125_19 rfl (by decide +kernel) ?_
  refine zw_lcmp 0 21 f125_20 rfl (by decide +kernel) ?_
  refine zw_if_eq_t 42 f125_21 (by decide +kernel) (by decide +kernel) ?_
  refine zw_lload 44 f125_42 rfl rfl ?_
  refine zw_lreturn f125_44 r125 u125 ⟨_, rfl, ?_⟩
  refine zw_putfieldS 54 f135_51 rfl g135_161_12 (zg_eq (zg_ne rfl (zg_ne rfl (zg_ne rfl (zg_ne rfl (zg_ne rfl (zg_ne rfl (zg_eq (mb_52 x))))))))) rfl (zg_eq (zg_ne rfl rfl)) (by decide +kernel) ?_
  refine zw_iinc 2 [(1, .int 2), (0, .ref 52)] 57 f135_54 rfl rfl (by decide +kernel) (by decide +kernel) rfl ?_
  refine zw_goto 31 f135_57 (by decide +kernel) ?_
  refine zw_iload_n 32 f135_31 rfl rfl ?_
  refine zw_bipush 8 34 f135_32 rfl (by decide +kernel) ?_
  refine zw_ic_ge_f 37 60 f135_34 (by decide +kernel) rfl (by decide +kernel) ?_
  refine zw_aload_n 38 f135_37 rfl rfl ?_
  refine zw_aload_n 39 f135_38 rfl rfl ?_
  refine zw_getfield 42 f135_39 rfl g135_44_12 (zg_eq (zg_ne rfl (zg_ne rfl (zg_ne rfl (zg_ne rfl (zg_ne rfl (zg_ne rfl (zg_eq (mb_52 x))))))))) (zg_ne rfl (zg_ne rfl rfl)) ?_
  refine zw_iload_n 43 f135_42 rfl rfl ?_
  refine zw_laload 2 0 44 f135_43 rfl (zg_ne rfl (zg_ne rfl (zg_ne rfl (zg_ne rfl (zg_ne rfl (zg_ne rfl (zg_ne rfl (zg_ne rfl (mb_63 x))))))))) (by decide +kernel) (by decide +kernel) (by decide +kernel) rfl ?_
  refine zw_aload_n 45 f135_44 rfl rfl ?_
  refine zw_getfield 48 f135_45 rfl g135_161_12 (zg_eq (zg_ne rfl (zg_ne rfl (zg_ne rfl (zg_ne rfl (zg_ne rfl (zg_ne rfl (zg_eq (mb_52 x))))))))) (zg_eq (zg_ne rfl rfl)) ?_
  refine zw_static_l 51 0 0 [.long 0, .long 1] [.ref 52] [(0, .long 0), (2, .long 1)] f135_48 rfl k135_164_99 rfl (by decide +kernel) (Nat.le_of_ble_eq_true rfl) (Nat.le_of_ble_eq_true rfl) rfl rfl (by decide +kernel) (by decide +kernel) rfl (Nat.le_of_ble_eq_true rfl) rfl ?_
  refine zw_lload_n 1 f125_0 rfl rfl ?_
  refine zw_lconst 0 2 f125_1 rfl (by decide +kernel) ?_
  refine zw_lcmp 0 3 f125_2 rfl (by decide +kernel) ?_
  refine zw_if_ge_t 11 f125_3 (by decide +kernel) (by decide +kernel) ?_
  refine zw_lload_n 12 f125_11 rfl rfl ?_
  refine zw_lstore [(4, .long 0), (0, .long 0), (2, .long 1)] 14 f125_12 rfl (by decide +kernel) rfl ?_
  refine zw_lload_n 15 f125_14 rfl rfl ?_
  refine zw_lstore [(6, .long 1), (4, .long 0), (0, .long 0), (2, .long 1)] 17 f125_15 rfl (by decide +kernel) rfl ?_
  refine zw_lload 19 f125_17 rfl rfl ?_
  refine zw_lconst 0 20 f125_19 rfl (by decide +kernel) ?_
  refine zw_lcmp 1 21 f125_20 rfl (by decide +kernel) ?_
  refine zw_if_eq_f 24 42 f125_21 (by decide +kernel) rfl (by decide +kernel) ?_
  refine zw_lload 26 f125_24 rfl rfl ?_
  refine zw_lload 28 f125_26 rfl rfl ?_
  refine zw_lrem 0 29 f125_28 rfl (by decide +kernel) (by decide +kernel) ?_
  refine zw_lstore [(8, .long 0), (6, .long 1), (4, .long 0), (0, .long 0), (2, .long 1)] 31 f125_29 rfl (by decide +kernel) rfl ?_
  refine zw_lload 33 f125_31 rfl rfl ?_
  refine zw_lstore [(4, .long 1), (8, .long 0), (6, .long 1), (0, .long 0), (2, .long 1)] 35 f125_33 rfl (by decide +kernel) rfl ?_
  refine zw_lload 37 f125_35 rfl rfl ?_
  refine zw_lstore [(6, .long 0), (4, .long 1), (8, .long 0), (0, .long 0), (2, .long 1)] 39 f125_37 rfl (by decide +kernel) rfl ?_
  refine zw_goto 17 f125_39 (by decide +kernel) ?_
  refine zw_lload 19 f125_17 rfl rfl ?_
  refine zw_lconst 0 20 f125_19 rfl (by decide +kernel) ?_
  refine zw_lcmp 0 21 f125_20 rfl (by decide +kernel) ?_
  refine zw_if_eq_t 42 f125_21 (by decide +kernel) (by decide +kernel) ?_
  refine zw_lload 44 f125_42 rfl rfl ?_
  refine zw_lreturn f125_44 r125 u125 ⟨_, rfl, ?_⟩
  refine zw_putfieldS 54 f135_51 rfl g135_161_12 (zg_eq (zg_ne rfl (zg_ne rfl (zg_ne rfl (zg_ne rfl (zg_ne rfl (zg_ne rfl (zg_eq (mb_52 x))))))))) rfl (zg_eq (zg_ne rfl rfl)) (by decide +kernel) ?_
  refine zw_iinc 3 [(1, .int 3), (0, .ref 52)] 57 f135_54 rfl rfl (by decide +kernel) (by decide +kernel) rfl ?_
  refine zw_goto 31 f135_57 (by decide +kernel) ?_
  refine zw_iload_n 32 f135_31 rfl rfl ?_
  refine zw_bipush 8 34 f135_32 rfl (by decide +kernel) ?_
  refine zw_ic_ge_f 37 60 f135_34 (by decide +kernel) rfl (by decide +kernel) ?_
  refine zw_aload_n 38 f135_37 rfl rfl ?_
  refine zw_aload_n 39 f135_38 rfl rfl ?_
  refine zw_getfield 42 f135_39 rfl g135_44_12 (zg_eq (zg_ne rfl (zg_ne rfl (zg_ne rfl (zg_ne rfl (zg_ne rfl (zg_ne rfl (zg_eq (mb_52 x))))))))) (zg_ne rfl (zg_ne rfl rfl)) ?_
  refine zw_iload_n 43 f135_42 rfl rfl ?_
  refine zw_laload 3 0 44 f135_43 rfl (zg_ne rfl (zg_ne rfl (zg_ne rfl (zg_ne rfl (zg_ne rfl (zg_ne rfl (zg_ne rfl (zg_ne rfl (mb_63 x))))))))) (by decide +kernel) (by decide +kernel) (by decide +kernel) rfl ?_
  refine zw_aload_n 45 f135_44 rfl rfl ?_
  refine zw_getfield 48 f135_45 rfl g135_161_12 (zg_eq (zg_ne rfl (zg_ne rfl (zg_ne rfl (zg_ne rfl (zg_ne rfl (zg_ne rfl (zg_eq (mb_52 x))))))))) (zg_eq (zg_ne rfl rfl)) ?_
  refine zw_static_l 51 0 0 [.long 0, .long 1] [.ref 52] [(0, .long 0), (2, .long 1)] f135_48 rfl k135_164_99 rfl (by decide +kernel) (Nat.le_of_ble_eq_true rfl) (Nat.le_of_ble_eq_true rfl) rfl rfl (by decide +kernel) (by decide +kernel) rfl (Nat.le_of_ble_eq_true rfl) rfl ?_
  refine zw_lload_n 1 f125_0 rfl rfl ?_
  refine zw_lconst 0 2 f125_1 rfl (by decide +kernel) ?_
  refine zw_lcmp 0 3 f125_2 rfl (by decide +kernel) ?_
  refine zw_if_ge_t 11 f125_3 (by decide +kernel) (by decide +kernel) ?_
  refine zw_lload_n 12 f125_11 rfl rfl ?_
  refine zw_lstore [(4, .long 0), (0, .long 0), (2, .long 1)] 14 f125_12 rfl (by decide +kernel) rfl ?_
  refine zw_lload_n 15 f125_14 rfl rfl ?_
  refine zw_lstore [(6, .long 1), (4, .long 0), (0, .long 0), (2, .long 1)] 17 f125_15 rfl (by decide +kernel) rfl ?_
  refine zw_lload 19 f125_17 rfl rfl ?_
  refine zw_lconst 0 20 f125_19 rfl (by decide +kernel) ?_
  refine zw_lcmp 1 21 f125_20 rfl (by decide +kernel) ?_
  refine zw_if_eq_f 24 42 f125_21 (by decide +kernel) rfl (by decide +kernel) ?_
  refine zw_lload 26 f125_24 rfl rfl ?_
  refine zw_lload 28 f125_26 rfl rfl ?_
  refine zw_lrem 0 29 f125_28 rfl (by decide +kernel) (by decide +kernel) ?_
  refine zw_lstore [(8, .long 0), (6, .long 1), (4, .long 0), (0, .long 0), (2, .long 1)] 31 f125_29 rfl (by decide +kernel) rfl ?_
  refine zw_lload 33 f125_31 rfl rfl ?_
  refine zw_lstore [(4, .long 1), (8, .long 0), (6, .long 1), (0, .long 0), (2, .long 1)] 35 f125_33 rfl (by decide +kernel) rfl ?_
  refine zw_lload 37 f125_35 rfl rfl ?_
  refine zw_lstore [(6, .long 0), (4, .long 1), (8, .long 0), (0, .long 0), (2, .long 1)] 39 f125_37 rfl (by decide +kernel) rfl ?_
  refine zw_goto 17 f125_39 (by decide +kernel) ?_
  refine zw_lload 19 f125_17 rfl rfl ?_
  refine zw_lconst 0 20 f125_19 rfl (by decide +kernel) ?_
  refine zw_lcmp 0 21 f125_20 rfl (by decide +kernel) ?_
  refine zw_if_eq_t 42 f125_21 (by decide +kernel) (by decide +kernel) ?_
  refine zw_lload 44 f125_42 rfl rfl ?_
  refine zw_lreturn f125_44 r125 u125 ⟨_, rfl, ?_⟩
  refine zw_putfieldS 54 f135_51 rfl g135_161_12 (zg_eq (zg_ne rfl (zg_ne rfl (zg_ne rfl (zg_ne rfl (zg_ne rfl (zg_ne rfl (zg_eq (mb_52 x))))))))) rfl (zg_eq (zg_ne rfl rfl)) (by decide +kernel) ?_
  refine zw_iinc 4 [(1, .int 4), (0, .ref 52)] 57 f135_54 rfl rfl (by decide +kernel) (by decide +kernel) rfl ?_
  refine zw_goto 31 f135_57 (by decide +kernel) ?_
  refine zw_iload_n 32 f135_31 rfl rfl ?_
  refine zw_bipush 8 34 f135_32 rfl (by decide +kernel) ?_
  refine zw_ic_ge_f 37 60 f135_34 (by decide +kernel) rfl (by decide +kernel) ?_
  refine zw_aload_n 38 f135_37 rfl rfl ?_
  refine zw_aload_n 39 f135_38 rfl rfl ?_
  refine zw_getfield 42 f135_39 rfl g135_44_12 (zg_eq (zg_ne rfl (zg_ne rfl (zg_ne rfl (zg_ne rfl (zg_ne rfl (zg_ne rfl (zg_eq (mb_52 x))))))))) (zg_ne rfl (zg_ne rfl rfl)) ?_
  refine zw_iload_n 43 f135_42 rfl rfl ?_
  refine zw_laload 4 0 44 f135_43 rfl (zg_ne rfl (zg_ne rfl (zg_ne rfl (zg_ne rfl (zg_ne rfl (zg_ne rfl (zg_ne rfl (zg_ne rfl (mb_63 x))))))))) (by decide +kernel) (by decide +kernel) (by decide +kernel) rfl ?_
  refine zw_aload_n 45 f135_44 rfl rfl ?_
  refine zw_getfield 48 f135_45 rfl g135_161_12 (zg_eq (zg_ne rfl (zg_ne rfl (zg_ne rfl (zg_ne rfl (zg_ne rfl (zg_ne rfl (zg_eq (mb_52 x))))))))) (zg_eq (zg_ne rfl rfl)) ?_
  refine zw_static_l 51 0 0 [.long 0, .long 1] [.ref 52] [(0, .long 0), (2, .long 1)] f135_48 rfl k135_164_99 rfl (by decide +kernel) (Nat.le_of_ble_eq_true rfl) (Nat.le_of_ble_eq_true rfl) rfl rfl (by decide +kernel) (by decide +kernel) rfl (Nat.le_of_ble_eq_true rfl) rfl ?_
  refine zw_lload_n 1 f125_0 rfl rfl ?_
  refine zw_lconst 0 2 f125_1 rfl (by decide +kernel) ?_
  refine zw_lcmp 0 3 f125_2 rfl (by decide +kernel) ?_
  refine zw_if_ge_t 11 f125_3 (by decide +kernel) (by decide +kernel) ?_
  refine zw_lload_n 12 f125_11 rfl rfl ?_
  refine zw_lstore [(4, .long 0), (0, .long 0), (2, .long 1)] 14 f125_12 rfl (by decide +kernel) rfl ?_
  refine zw_lload_n 15 f125_14 rfl rfl ?_
  refine zw_lstore [(6, .long 1), (4, .long 0), (0, .long 0), (2, .long 1)] 17 f125_15 rfl (by decide +kernel) rfl ?_
  refine zw_lload 19 f125_17 rfl rfl ?_
  refine zw_lconst 0 20 f125_19 rfl (by decide +kernel) ?_
  refine zw_lcmp 1 21 f125_20 rfl (by decide +kernel) ?_
  refine zw_if_eq_f 24 42 f125_21 (by decide +kernel) rfl (by decide +kernel) ?_
  refine zw_lload 26 f125_24 rfl rfl ?_
  refine zw_lload 28 f125_26 rfl rfl ?_
  refine zw_lrem 0 29 f125_28 rfl (by decide +kernel) (by decide +kernel) ?_
  refine zw_lstore [(8, .long 0), (6, .long 1), (4, .long 0), (0, .long 0), (2, .long 1)] 31 f125_29 rfl (by decide +kernel) rfl ?_
  refine zw_lload 33 f125_31 rfl rfl ?_
  refine zw_lstore [(4, .long 1), (8, .long 0), (6, .long 1), (0, .long 0), (2, .long 1)] 35 f125_33 rfl (by decide +kernel) rfl ?_
  refine zw_lload 37 f125_35 rfl rfl ?_
  refine zw_lstore [(6, .long 0), (4, .long 1), (8, .long 0), (0, .long 0), (2, .long 1)] 39 f125_37 rfl (by decide +kernel) rfl ?_
  refine zw_goto 17 f125_39 (by decide +kernel) ?_
  refine zw_lload 19 f125_17 rfl rfl ?_
  refine zw_lconst 0 20 f125_19 rfl (by decide +kernel) ?_
  refine zw_lcmp 0 21 f125_20 rfl (by decide +kernel) ?_
  refine zw_if_eq_t 42 f125_21 (by decide +kernel) (by decide +kernel) ?_
  refine zw_lload 44 f125_42 rfl rfl ?_
  refine zw_lreturn f125_44 r125 u125 ⟨_, rfl, ?_⟩
  refine zw_putfieldS 54 f135_51 rfl g135_161_12 (zg_eq (zg_ne rfl (zg_ne rfl (zg_ne rfl (zg_ne rfl (zg_ne rfl (zg_ne rfl (zg_eq (mb_52 x))))))))) rfl (zg_eq (zg_ne rfl rfl)) (by decide +kernel) ?_
  refine zw_iinc 5 [(1, .int 5), (0, .ref 52)] 57 f135_54 rfl rfl (by decide +kernel) (by decide +kernel) rfl ?_
  refine zw_goto 31 f135_57 (by decide +kernel) ?_
  refine zw_iload_n 32 f135_31 rfl rfl ?_
  refine zw_bipush 8 34 f135_32 rfl (by decide +kernel) ?_
  refine zw_ic_ge_f 37 60 f135_34 (by decide +kernel) rfl (by decide +kernel) ?_
  refine zw_aload_n 38 f135_37 rfl rfl ?_
  refine zw_aload_n 39 f135_38 rfl rfl ?_
  refine zw_getfield 42 f135_39 rfl g135_44_12 (zg_eq (zg_ne rfl (zg_ne rfl (zg_ne rfl (zg_ne rfl (zg_ne rfl (zg_ne rfl (zg_eq (mb_52 x))))))))) (zg_ne rfl (zg_ne rfl rfl)) ?_
  refine zw_iload_n 43 f135_42 rfl rfl ?_
  refine zw_laload 5 0 44 f135_43 rfl (zg_ne rfl (zg_ne rfl (zg_ne rfl (zg_ne rfl (zg_ne rfl (zg_ne rfl (zg_ne rfl (zg_ne rfl (mb_63 x))))))))) (by decide +kernel) (by decide +kernel) (by decide +kernel) rfl ?_
  refine zw_aload_n 45 f135_44 rfl rfl ?_
  refine zw_getfield 48 f135_45 rfl g135_161_12 (zg_eq (zg_ne rfl (zg_ne rfl (zg_ne rfl (zg_ne rfl (zg_ne rfl (zg_ne rfl (zg_eq (mb_52 x))))))))) (zg_eq (zg_ne rfl rfl)) ?_
  refine zw_static_l 51 0 0 [.long 0, .long 1] [.ref 52] [(0, .long 0), (2, .long 1)] f135_48 rfl k135_164_99 rfl (by decide +kernel) (Nat.le_of_ble_eq_true rfl) (Nat.le_of_ble_eq_true rfl) rfl rfl (by decide +kernel) (by decide +kernel) rfl (Nat.le_of_ble_eq_true rfl) rfl ?_
  refine zw_lload_n 1 f125_0 rfl rfl ?_
  refine zw_lconst 0 2 f125_1 rfl (by decide +kernel) ?_
  refine zw_lcmp 0 3 f125_2 rfl (by decide +kernel) ?_
  refine zw_if_ge_t 11 f125_3 (by decide +kernel) (by decide +kernel) ?_
  refine zw_lload_n 12 f125_11 rfl rfl ?_
  refine zw_lstore [(4, .long 0), (0, .long 0), (2, .long 1)] 14 f125_12 rfl (by decide +kernel) rfl ?_
  refine zw_lload_n 15 f125_14 rfl rfl ?_
  refine zw_lstore [(6, .long 1), (4, .long 0), (0, .long 0), (2, .long 1)] 17 f125_15 rfl (by decide +kernel) rfl ?_
  refine zw_lload 19 f125_17 rfl rfl ?_
  refine zw_lconst 0 20 f125_19 rfl (by decide +kernel) ?_
  refine zw_lcmp 1 21 f125_20 rfl (by decide +kernel) ?_
  refine zw_if_eq_f 24 42 f125_21 (by decide +kernel) rfl (by decide +kernel) ?_
  refine zw_lload 26 f125_24 rfl rfl ?_
  refine zw_lload 28 f125_26 rfl rfl ?_
  refine zw_lrem 0 29 f125_28 rfl (by decide +kernel) (by decide +kernel) ?_
  refine zw_lstore [(8, .long 0), (6, .long 1), (4, .long 0), (0, .long 0), (2, .long 1)] 31 f125_29 rfl (by decide +kernel) rfl ?_
  refine zw_lload 33 f125_31 rfl rfl ?_
  refine zw_lstore [(4, .long 1), (8, .long 0), (6, .long 1), (0, .long 0), (2, .long 1)] 35 f125_33 rfl (by decide +kernel) rfl ?_
  refine zw_lload 37 f125_35 rfl rfl ?_
  refine zw_lstore [(6, .long 0), (4, .long 1), (8, .long 0), (0, .long 0), (2, .long 1)] 39 f125_37 rfl (by decide +kernel) rfl ?_
  refine zw_goto 17 f125_39 (by decide +kernel) ?_
  refine zw_lload 19 f125_17 rfl rfl ?_
  refine zw_lconst 0 20 f125_19 rfl (by decide +kernel) ?_
  refine zw_lcmp 0 21 f125_20 rfl (by decide +kernel) ?_
  refine zw_if_eq_t 42 f125_21 (by decide +kernel) (by decide +kernel) ?_
  refine zw_lload 44 f125_42 rfl rfl ?_
  refine zw_lreturn f125_44 r125 u125 ⟨_, rfl, ?_⟩
  refine zw_putfieldS 54 f135_51 rfl g135_161_12 (zg_eq (zg_ne rfl (zg_ne rfl (zg_ne rfl (zg_ne rfl (zg_ne rfl (zg_ne rfl (zg_eq (mb_52 x))))))))) rfl (zg_eq (zg_ne rfl rfl)) (by decide +kernel) ?_
  refine zw_iinc 6 [(1, .int 6), (0, .ref 52)] 57 f135_54 rfl rfl (by decide +kernel) (by decide +kernel) rfl ?_
  refine zw_goto 31 f135_57 (by decide +kernel) ?_
  refine zw_iload_n 32 f135_31 rfl rfl ?_
  refine zw_bipush 8 34 f135_32 rfl (by decide +kernel) ?_
  refine zw_ic_ge_f 37 60 f135_34 (by decide +kernel) rfl (by decide +kernel) ?_
  refine zw_aload_n 38 f135_37 rfl rfl ?_
  refine zw_aload_n 39 f135_38 rfl rfl ?_
  refine zw_getfield 42 f135_39 rfl g135_44_12 (zg_eq (zg_ne rfl (zg_ne rfl (zg_ne rfl (zg_ne rfl (zg_ne rfl (zg_ne rfl (zg_eq (mb_52 x))))))))) (zg_ne rfl (zg_ne rfl rfl)) ?_
  refine zw_iload_n 43 f135_42 rfl rfl ?_
  refine zw_laload 6 0 44 f135_43 rfl (zg_ne rfl (zg_ne rfl (zg_ne rfl (zg_ne rfl (zg_ne rfl (zg_ne rfl (zg_ne rfl (zg_ne rfl (mb_63 x))))))))) (by decide +kernel) (by decide +kernel) (by decide +kernel) rfl ?_
  refine zw_aload_n 45 f135_44 rfl rfl ?_
  refine zw_getfield 48 f135_45 rfl g135_161_12 (zg_eq (zg_ne rfl (zg_ne rfl (zg_ne rfl (zg_ne rfl (zg_ne rfl (zg_ne rfl (zg_eq (mb_52 x))))))))) (zg_eq (zg_ne rfl rfl)) ?_
  refine zw_static_l 51 0 0 [.long 0, .long 1] [.ref 52] [(0, .long 0), (2, .long 1)] f135_48 rfl k135_164_99 rfl (by decide +kernel) (Nat.le_of_ble_eq_true rfl) (Nat.le_of_ble_eq_true rfl) rfl rfl (by decide +kernel) (by decide +kernel) rfl (Nat.le_of_ble_eq_true rfl) rfl ?_
  refine zw_lload_n 1 f125_0 rfl rfl ?_
  refine zw_lconst 0 2 f125_1 rfl (by decide +kernel) ?_
  refine zw_lcmp 0 3 f125_2 rfl (by decide +kernel) ?_
  refine zw_if_ge_t 11 f125_3 (by decide +kernel) (by decide +kernel) ?_
  refine zw_lload_n 12 f125_11 rfl rfl ?_
  refine zw_lstore [(4, .long 0), (0, .long 0), (2, .long 1)] 14 f125_12 rfl (by decide +kernel) rfl ?_
  refine zw_lload_n 15 f125_14 rfl rfl ?_
  refine zw_lstore [(6, .long 1), (4, .long 0), (0, .long 0), (2, .long 1)] 17 f125_15 rfl (by decide +kernel) rfl ?_
  refine zw_lload 19 f125_17 rfl rfl ?_
  refine zw_lconst 0 20 f125_19 rfl (by decide +kernel) ?_
  refine zw_lcmp 1 21 f125_20 rfl (by decide +kernel) ?_
  refine zw_if_eq_f 24 42 f125_21 (by decide +kernel) rfl (by decide +kernel) ?_
  refine zw_lload 26 f125_24 rfl rfl ?_
  refine zw_lload 28 f125_26 rfl rfl ?_
  refine zw_lrem 0 29 f125_28 rfl (by decide +kernel) (by decide +kernel) ?_
  refine zw_lstore [(8, .long 0), (6, .long 1), (4, .long 0), (0, .long 0), (2, .long 1)] 31 f125_29 rfl (by decide +kernel) rfl ?_
  refine zw_lload 33 f125_31 rfl rfl ?_
  refine zw_lstore [(4, .long 1), (8, .long 0), (6, .long 1), (0, .long 0), (2, .long 1)] 35 f125_33 rfl (by decide +kernel) rfl ?_
  refine zw_lload 37 f125_35 rfl rfl ?_
  refine zw_lstore [(6, .long 0), (4, .long 1), (8, .long 0), (0, .long 0), (2, .long 1)] 39 f125_37 rfl (by decide +kernel) rfl ?_
  refine zw_goto 17 f125_39 (by decide +kernel) ?_
  refine zw_lload 19 f125_17 rfl rfl ?_
  refine zw_lconst 0 20 f125_19 rfl (by decide +kernel) ?_
  refine zw_lcmp 0 21 f125_20 rfl (by decide +kernel) ?_
  refine zw_if_eq_t 42 f125_21 (by decide +kernel) (by decide +kernel) ?_
  refine zw_lload 44 f125_42 rfl rfl ?_
  refine zw_lreturn f125_44 r125 u125 ⟨_, rfl, ?_⟩
  refine zw_putfieldS 54 f135_51 rfl g135_161_12 (zg_eq (zg_ne rfl (zg_ne rfl (zg_ne rfl (zg_ne rfl (zg_ne rfl (zg_ne rfl (zg_eq (mb_52 x))))))))) rfl (zg_eq (zg_ne rfl rfl)) (by decide +kernel) ?_
  refine zw_iinc 7 [(1, .int 7), (0, .ref 52)] 57 f135_54 rfl rfl (by decide +kernel) (by decide +kernel) rfl ?_
  refine zw_goto 31 f135_57 (by decide +kernel) ?_
  refine zw_iload_n 32 f135_31 rfl rfl ?_
  refine zw_bipush 8 34 f135_32 rfl (by decide +kernel) ?_
  refine zw_ic_ge_f 37 60 f135_34 (by decide +kernel) rfl (by decide +kernel) ?_
  refine zw_aload_n 38 f135_37 rfl rfl ?_
  refine zw_aload_n 39 f135_38 rfl rfl ?_
  refine zw_getfield 42 f135_39 rfl g135_44_12 (zg_eq (zg_ne rfl (zg_ne rfl (zg_ne rfl (zg_ne rfl (zg_ne rfl (zg_ne rfl (zg_eq (mb_52 x))))))))) (zg_ne rfl (zg_ne rfl rfl)) ?_
  refine zw_iload_n 43 f135_42 rfl rfl ?_
  refine zw_laload 7 0 44 f135_43 rfl (zg_ne rfl (zg_ne rfl (zg_ne rfl (zg_ne rfl (zg_ne rfl (zg_ne rfl (zg_ne rfl (zg_ne rfl (mb_63 x))))))))) (by decide +kernel) (by decide +kernel) (by decide +kernel) rfl ?_
  refine zw_aload_n 45 f135_44 rfl rfl ?_
  refine zw_getfield 48 f135_45 rfl g135_161_12 (zg_eq (zg_ne rfl (zg_ne rfl (zg_ne rfl (zg_ne rfl (zg_ne rfl (zg_ne rfl (zg_eq (mb_52 x))))))))) (zg_eq (zg_ne rfl rfl)) ?_
  refine zw_static_l 51 0 0 [.long 0, .long 1] [.ref 52] [(0, .long 0), (2, .long 1)] f135_48 rfl k135_164_99 rfl (by decide +kernel) (Nat.le_of_ble_eq_true rfl) (Nat.le_of_ble_eq_true rfl) rfl rfl (by decide +kernel) (by decide +kernel) rfl (Nat.le_of_ble_eq_true rfl) rfl ?_
  refine zw_lload_n 1 f125_0 rfl rfl ?_
  refine zw_lconst 0 2 f125_1 rfl (by decide +kernel) ?_
  refine zw_lcmp 0 3 f125_2 rfl (by decide +kernel) ?_
  refine zw_if_ge_t 11 f125_3 (by decide +kernel) (by decide +kernel) ?_
  refine zw_lload_n 12 f125_11 rfl rfl ?_
  refine zw_lstore [(4, .long 0), (0, .long 0), (2, .long 1)] 14 f125_12 rfl (by decide +kernel) rfl ?_
  refine zw_lload_n 15 f125_14 rfl rfl ?_
  refine zw_lstore [(6, .long 1), (4, .long 0), (0, .long 0), (2, .long 1)] 17 f125_15 rfl (by decide +kernel) rfl ?_
  refine zw_lload 19 f125_17 rfl rfl ?_
  refine zw_lconst 0 20 f125_19 rfl (by decide +kernel) ?_
  refine zw_lcmp 1 21 f125_20 rfl (by decide +kernel) ?_
  refine zw_if_eq_f 24 42 f125_21 (by decide +kernel) rfl (by decide +kernel) ?_
  refine zw_lload 26 f125_24 rfl rfl ?_
  refine zw_lload 28 f125_26 rfl rfl ?_
  refine zw_lrem 0 29 f125_28 rfl (by decide +kernel) (by decide +kernel) ?_
  refine zw_lstore [(8, .long 0), (6, .long 1), (4, .long 0), (0, .long 0), (2, .long 1)] 31 f125_29 rfl (by decide +kernel) rfl ?_
  refine zw_lload 33 f125_31 rfl rfl ?_
  refine zw_lstore [(4, .long 1), (8, .long 0), (6, .long 1), (0, .long 0), (2, .long 1)] 35 f125_33 rfl (by decide +kernel) rfl ?_
  refine zw_lload 37 f125_35 rfl rfl ?_
  refine zw_lstore [(6, .long 0), (4, .long 1), (8, .long 0), (0, .long 0), (2, .long 1)] 39 f125_37 rfl (by decide +kernel) rfl ?_
  refine zw_goto 17 f125_39 (by decide +kernel) ?_
  refine zw_lload 19 f125_17 rfl rfl ?_
  refine zw_lconst 0 20 f125_19 rfl (by decide +kernel) ?_
  refine zw_lcmp 0 21 f125_20 rfl (by decide +kernel) ?_
  refine zw_if_eq_t 42 f125_21 (by decide +kernel) (by decide +kernel) ?_
  refine zw_lload 44 f125_42 rfl rfl ?_
  refine zw_lreturn f125_44 r125 u125 ⟨_, rfl, ?_⟩
  refine zw_putfieldS 54 f135_51 rfl g135_161_12 (zg_eq (zg_ne rfl (zg_ne rfl (zg_ne rfl (zg_ne rfl (zg_ne rfl (zg_ne rfl (zg_eq (mb_52 x))))))))) rfl (zg_eq (zg_ne rfl rfl)) (by decide +kernel) ?_
  refine zw_iinc 8 [(1, .int 8), (0, .ref 52)] 57 f135_54 rfl rfl (by decide +kernel) (by decide +kernel) rfl ?_
  refine zw_goto 31 f135_57 (by decide +kernel) ?_
  refine zw_iload_n 32 f135_31 rfl rfl ?_
  refine zw_bipush 8 34 f135_32 rfl (by decide +kernel) ?_
  refine zw_ic_ge_t 60 f135_34 (by decide +kernel) (by decide +kernel) ?_
  refine zw_aload_n 61 f135_60 rfl rfl ?_
  refine zw_dup 62 f135_61 rfl rfl ?_
  refine zw_getfield 65 f135_62 rfl g135_172_12 (zg_eq (zg_ne rfl (zg_ne rfl (zg_ne rfl (zg_ne rfl (zg_ne rfl (zg_ne rfl (zg_eq (mb_52 x))))))))) (zg_ne rfl (zg_ne rfl rfl)) ?_
  refine zw_aload_n 66 f135_65 rfl rfl ?_
  refine zw_getfield 69 f135_66 rfl g135_161_12 (zg_eq (zg_ne rfl (zg_ne rfl (zg_ne rfl (zg_ne rfl (zg_ne rfl (zg_ne rfl (zg_eq (mb_52 x))))))))) (zg_eq (zg_ne rfl rfl)) ?_
  refine zw_ldiv 0 70 f135_69 rfl (by decide +kernel) (by decide +kernel) ?_
  refine zw_putfieldS 73 f135_70 rfl g135_172_12 (zg_eq (zg_ne rfl (zg_ne rfl (zg_ne rfl (zg_ne rfl (zg_ne rfl (zg_ne rfl (zg_eq (mb_52 x))))))))) rfl (zg_ne rfl (zg_ne rfl rfl)) (by decide +kernel) ?_
  refine zw_aload_n 74 f135_73 rfl rfl ?_
  refine zw_dup 75 f135_74 rfl rfl ?_
  refine zw_getfield 78 f135_75 rfl g135_175_12 (zg_eq (zg_ne rfl (zg_ne rfl (zg_ne rfl (zg_ne rfl (zg_ne rfl (zg_ne rfl (zg_eq (mb_52 x))))))))) (zg_ne rfl (zg_ne rfl rfl)) ?_
  refine zw_aload_n 79 f135_78 rfl rfl ?_
  refine zw_getfield 82 f135_79 rfl g135_161_12 (zg_eq (zg_ne rfl (zg_ne rfl (zg_ne rfl (zg_ne rfl (zg_ne rfl (zg_ne rfl (zg_eq (mb_52 x))))))))) (zg_eq (zg_ne rfl rfl)) ?_
  refine zw_ldiv 0 83 f135_82 rfl (by decide +kernel) (by decide +kernel) ?_
  refine zw_putfieldS 86 f135_83 rfl g135_175_12 (zg_eq (zg_ne rfl (zg_ne rfl (zg_ne rfl (zg_ne rfl (zg_ne rfl (zg_ne rfl (zg_eq (mb_52 x))))))))) rfl (zg_ne rfl (zg_ne rfl rfl)) (by decide +kernel) ?_
  refine zw_aload_n 87 f135_86 rfl rfl ?_
  refine zw_dup 88 f135_87 rfl rfl ?_
  refine zw_getfield 91 f135_88 rfl g135_178_12 (zg_eq (zg_ne rfl (zg_ne rfl (zg_ne rfl (zg_ne rfl (zg_ne rfl (zg_ne rfl (zg_eq (mb_52 x))))))))) (zg_ne rfl (zg_ne rfl rfl)) ?_
  refine zw_aload_n 92 f135_91 rfl rfl ?_
  refine zw_getfield 95 f135_92 rfl g135_161_12 (zg_eq (zg_ne rfl (zg_ne rfl (zg_ne rfl (zg_ne rfl (zg_ne rfl (zg_ne rfl (zg_eq (mb_52 x))))))))) (zg_eq (zg_ne rfl rfl)) ?_
  refine zw_ldiv 0 96 f135_95 rfl (by decide +kernel) (by decide +kernel) ?_
  refine zw_putfieldS 99 f135_96 rfl g135_178_12 (zg_eq (zg_ne rfl (zg_ne rfl (zg_ne rfl (zg_ne rfl (zg_ne rfl (zg_ne rfl (zg_eq (mb_52 x))))))))) rfl (zg_ne rfl (zg_ne rfl rfl)) (by decide +kernel) ?_
  refine zw_iconst 0 100 f135_99 rfl (by decide +kernel) ?_
  refine zw_istore_n [(1, .int 0), (0, .ref 52)] 101 f135_100 rfl (by decide +kernel) rfl ?_
  refine zw_iload_n 102 f135_101 rfl rfl ?_
  refine zw_bipush 8 104 f135_102 rfl (by decide +kernel) ?_
  refine zw_ic_ge_f 107 126 f135_104 (by decide +kernel) rfl (by decide +kernel) ?_
  refine zw_aload_n 108 f135_107 rfl rfl ?_
  refine zw_getfield 111 f135_108 rfl g135_44_12 (zg_eq (zg_ne rfl (zg_ne rfl (zg_ne rfl (zg_ne rfl (zg_ne rfl (zg_ne rfl (zg_eq (mb_52 x))))))))) (zg_ne rfl (zg_ne rfl rfl)) ?_
  refine zw_iload_n 112 f135_111 rfl rfl ?_
  refine zw_dup2 113 f135_112 rfl rfl rfl ?_
  refine zw_laload 0 0 114 f135_113 rfl (zg_ne rfl (zg_ne rfl (zg_ne rfl (zg_ne rfl (zg_ne rfl (zg_ne rfl (zg_ne rfl (zg_ne rfl (mb_63 x))))))))) (by decide +kernel) (by decide +kernel) (by decide +kernel) rfl ?_
  refine zw_aload_n 115 f135_114 rfl rfl ?_
  refine zw_getfield 118 f135_115 rfl g135_161_12 (zg_eq (zg_ne rfl (zg_ne rfl (zg_ne rfl (zg_ne rfl (zg_ne rfl (zg_ne rfl (zg_eq (mb_52 x))))))))) (zg_eq (zg_ne rfl rfl)) ?_
  refine zw_ldiv 0 119 f135_118 rfl (by decide +kernel) (by decide +kernel) ?_
  refine zw_lastoreS 0 120 f135_119 rfl (zg_ne rfl (zg_ne rfl (zg_ne rfl (zg_ne rfl (zg_ne rfl (zg_ne rfl (zg_ne rfl (zg_ne rfl (mb_63 x))))))))) (by decide +kernel) (by decide +kernel) (by decide +kernel) rfl ?_
  refine zw_iinc 1 [(1, .int 1), (0, .ref 52)] 123 f135_120 rfl rfl (by decide +kernel) (by decide +kernel) rfl ?_
  refine zw_goto 101 f135_123 (by decide +kernel) ?_
  refine zw_iload_n 102 f135_101 rfl rfl ?_
  refine zw_bipush 8 104 f135_102 rfl (by decide +kernel) ?_
  refine zw_ic_ge_f 107 126 f135_104 (by decide +kernel) rfl (by decide +kernel) ?_
  refine zw_aload_n 108 f135_107 rfl rfl ?_
  refine zw_getfield 111 f135_108 rfl g135_44_12 (zg_eq (zg_ne rfl (zg_ne rfl (zg_ne rfl (zg_ne rfl (zg_ne rfl (zg_ne rfl (zg_eq (mb_52 x))))))))) (zg_ne rfl (zg_ne rfl rfl)) ?_
  refine zw_iload_n 112 f135_111 rfl rfl ?_
  refine zw_dup2 113 f135_112 rfl rfl rfl ?_
  refine zw_laload 1 0 114 f135_113 rfl (zg_ne rfl (zg_ne rfl (zg_ne rfl (zg_ne rfl (zg_ne rfl (zg_ne rfl (zg_ne rfl (zg_ne rfl (mb_63 x))))))))) (by decide +kernel) (by decide +kernel) (by decide +kernel) rfl ?_
  refine zw_aload_n 115 f135_114 rfl rfl ?_
  refine zw_getfield 118 f135_115 rfl g135_161_12 (zg_eq (zg_ne rfl (zg_ne rfl (zg_ne rfl (zg_ne rfl (zg_ne rfl (zg_ne rfl (zg_eq (mb_52 x))))))))) (zg_eq (zg_ne rfl rfl)) ?_
  refine zw_ldiv 0 119 f135_118 rfl (by decide +kernel) (by decide +kernel) ?_
  refine zw_lastoreS 1 120 f135_119 rfl (zg_ne rfl (zg_ne rfl (zg_ne rfl (zg_ne rfl (zg_ne rfl (zg_ne rfl (zg_ne rfl (zg_ne rfl (mb_63 x))))))))) (by decide +kernel) (by decide +kernel) (by decide +kernel) rfl ?_
  refine zw_iinc 2 [(1, .int 2), (0, .ref 52)] 123 f135_120 rfl rfl (by decide +kernel) (by decide +kernel) rfl ?_
  refine zw_goto 101 f135_123 (by decide +kernel) ?_
  refine zw_iload_n 102 f135_101 rfl rfl ?_
  refine zw_bipush 8 104 f135_102 rfl (by decide +kernel) ?_
  refine zw_ic_ge_f 107 126 f135_104 (by decide +kernel) rfl (by decide +kernel) ?_
  refine zw_aload_n 108 f135_107 rfl rfl ?_
  refine zw_getfield 111 f135_108 rfl g135_44_12 (zg_eq (zg_ne rfl (zg_ne rfl (zg_ne rfl (zg_ne rfl (zg_ne rfl (zg_ne rfl (zg_eq (mb_52 x))))))))) (zg_ne rfl (zg_ne rfl rfl)) ?_
  refine zw_iload_n 112 f135_111 rfl rfl ?_
  refine zw_dup2 113 f135_112 rfl rfl rfl ?_
  refine zw_laload 2 0 114 f135_113 rfl (zg_ne rfl (zg_ne rfl (zg_ne rfl (zg_ne rfl (zg_ne rfl (zg_ne rfl (zg_ne rfl (zg_ne rfl (mb_63 x))))))))) (by decide +kernel) (by decide +kernel) (by decide +kernel) rfl ?_
  refine zw_aload_n 115 f135_114 rfl rfl ?_
  refine zw_getfield 118 f135_115 rfl g135_161_12 (zg_eq (zg_ne rfl (zg_ne rfl (zg_ne rfl (zg_ne rfl (zg_ne rfl (zg_ne rfl (zg_eq (mb_52 x))))))))) (zg_eq (zg_ne rfl rfl)) ?_
  refine zw_ldiv 0 119 f135_118 rfl (by decide +kernel) (by decide +kernel) ?_
  refine zw_lastoreS 2 120 f135_119 rfl (zg_ne rfl (zg_ne rfl (zg_ne rfl (zg_ne rfl (zg_ne rfl (zg_ne rfl (zg_ne rfl (zg_ne rfl (mb_63 x))))))))) (by decide +kernel) (by decide +kernel) (by decide +kernel) rfl ?_
  refine zw_iinc 3 [(1, .int 3), (0, .ref 52)] 123 f135_120 rfl rfl (by decide +kernel) (by decide +kernel) rfl ?_
  refine zw_goto 101 f135_123 (by decide +kernel) ?_
  refine zw_iload_n 102 f135_101 rfl rfl ?_
  refine zw_bipush 8 104 f135_102 rfl (by decide +kernel) ?_
  refine zw_ic_ge_f 107 126 f135_104 (by decide +kernel) rfl (by decide +kernel) ?_
  refine zw_aload_n 108 f135_107 rfl rfl ?_
  refine zw_getfield 111 f135_108 rfl g135_44_12 (zg_eq (zg_ne rfl (zg_ne rfl (zg_ne rfl (zg_ne rfl (zg_ne rfl (zg_ne rfl (zg_eq (mb_52 x))))))))) (zg_ne rfl (zg_ne rfl rfl)) ?_
  refine zw_iload_n 112 f135_111 rfl rfl ?_
  refine zw_dup2 113 f135_112 rfl rfl rfl ?_
  refine zw_laload 3 0 114 f135_113 rfl (zg_ne rfl (zg_ne rfl (zg_ne rfl (zg_ne rfl (zg_ne rfl (zg_ne rfl (zg_ne rfl (zg_ne rfl (mb_63 x))))))))) (by decide +kernel) (by decide +kernel) (by decide +kernel) rfl ?_
  refine zw_aload_n 115 f135_114 rfl rfl ?_
  refine zw_getfield 118 f135_115 rfl g135_161_12 (zg_eq (zg_ne rfl (zg_ne rfl (zg_ne rfl (zg_ne rfl (zg_ne rfl (zg_ne rfl (zg_eq (mb_52 x))))))))) (zg_eq (zg_ne rfl rfl)) ?_
  refine zw_ldiv 0 119 f135_118 rfl (by decide +kernel) (by decide +kernel) ?_
  refine zw_lastoreS 3 120 f135_119 rfl (zg_ne rfl (zg_ne rfl (zg_ne rfl (zg_ne rfl (zg_ne rfl (zg_ne rfl (zg_ne rfl (zg_ne rfl (mb_63 x))))))))) (by decide +kernel) (by decide +kernel) (by decide +kernel) rfl ?_
  refine zw_iinc 4 [(1, .int 4), (0, .ref 52)] 123 f135_120 rfl rfl (by decide +kernel) (by decide +kernel) rfl ?_
  refine zw_goto 101 f135_123 (by decide +kernel) ?_
  refine zw_iload_n 102 f135_101 rfl rfl ?_
  refine zw_bipush 8 104 f135_102 rfl (by decide +kernel) ?_
  refine zw_ic_ge_f 107 126 f135_104 (by decide +kernel) rfl (by decide +kernel) ?_
  refine zw_aload_n 108 f135_107 rfl rfl ?_
  refine zw_getfield 111 f135_108 rfl g135_44_12 (zg_eq (zg_ne rfl (zg_ne rfl (zg_ne rfl (zg_ne rfl (zg_ne rfl (zg_ne rfl (zg_eq (mb_52 x))))))))) (zg_ne rfl (zg_ne rfl rfl)) ?_
  refine zw_iload_n 112 f135_111 rfl rfl ?_
  refine zw_dup2 113 f135_112 rfl rfl rfl ?_
  refine zw_laload 4 0 114 f135_113 rfl (zg_ne rfl (zg_ne rfl (zg_ne rfl (zg_ne rfl (zg_ne rfl (zg_ne rfl (zg_ne rfl (zg_ne rfl (mb_63 x))))))))) (by decide +kernel) (by decide +kernel) (by decide +kernel) rfl ?_
  refine zw_aload_n 115 f135_114 rfl rfl ?_
  refine zw_getfield 118 f135_115 rfl g135_161_12 (zg_eq (zg_ne rfl (zg_ne rfl (zg_ne rfl (zg_ne rfl (zg_ne rfl (zg_ne rfl (zg_eq (mb_52 x))))))))) (zg_eq (zg_ne rfl rfl)) ?_
  refine zw_ldiv 0 119 f135_118 rfl (by decide +kernel) (by decide +kernel) ?_
  refine zw_lastoreS 4 120 f135_119 rfl (zg_ne rfl (zg_ne rfl (zg_ne rfl (zg_ne rfl (zg_ne rfl (zg_ne rfl (zg_ne rfl (zg_ne rfl (mb_63 x))))))))) (by decide +kernel) (by decide +kernel) (by decide +kernel) rfl ?_
  refine zw_iinc 5 [(1, .int 5), (0, .ref 52)] 123 f135_120 rfl rfl (by decide +kernel) (by decide +kernel) rfl ?_
  refine zw_goto 101 f135_123 (by decide +kernel) ?_
  refine zw_iload_n 102 f135_101 rfl rfl ?_
  refine zw_bipush 8 104 f135_102 rfl (by decide +kernel) ?_
  refine zw_ic_ge_f 107 126 f135_104 (by decide +kernel) rfl (by decide +kernel) ?_
  refine zw_aload_n 108 f135_107 rfl rfl ?_
  refine zw_getfield 111 f135_108 rfl g135_44_12 (zg_eq (zg_ne rfl (zg_ne rfl (zg_ne rfl (zg_ne rfl (zg_ne rfl (zg_ne rfl (zg_eq (mb_52 x))))))))) (zg_ne rfl (zg_ne rfl rfl)) ?_
  refine zw_iload_n 112 f135_111 rfl rfl ?_
  refine zw_dup2 113 f135_112 rfl rfl rfl ?_
  refine zw_laload 5 0 114 f135_113 rfl (zg_ne rfl (zg_ne rfl (zg_ne rfl (zg_ne rfl (zg_ne rfl (zg_ne rfl (zg_ne rfl (zg_ne rfl (mb_63 x))))))))) (by decide +kernel) (by decide +kernel) (by decide +kernel) rfl ?_
  refine zw_aload_n 115 f135_114 rfl rfl ?_
  refine zw_getfield 118 f135_115 rfl g135_161_12 (zg_eq (zg_ne rfl (zg_ne rfl (zg_ne rfl (zg_ne rfl (zg_ne rfl (zg_ne rfl (zg_eq (mb_52 x))))))))) (zg_eq (zg_ne rfl rfl)) ?_
  refine zw_ldiv 0 119 f135_118 rfl (by decide +kernel) (by decide +kernel) ?_
  refine zw_lastoreS 5 120 f135_119 rfl (zg_ne rfl (zg_ne rfl (zg_ne rfl (zg_ne rfl (zg_ne rfl (zg_ne rfl (zg_ne rfl (zg_ne rfl (mb_63 x))))))))) (by decide +kernel) (by decide +kernel) (by decide +kernel) rfl ?_
  refine zw_iinc 6 [(1, .int 6), (0, .ref 52)] 123 f135_120 rfl rfl (by decide +kernel) (by decide +kernel) rfl ?_
  refine zw_goto 101 f135_123 (by decide +kernel) ?_
  refine zw_iload_n 102 f135_101 rfl rfl ?_
  refine zw_bipush 8 104 f135_102 rfl (by decide +kernel) ?_
  refine zw_ic_ge_f 107 126 f135_104 (by decide +kernel) rfl (by decide +kernel) ?_
  refine zw_aload_n 108 f135_107 rfl rfl ?_
  refine zw_getfield 111 f135_108 rfl g135_44_12 (zg_eq (zg_ne rfl (zg_ne rfl (zg_ne rfl (zg_ne rfl (zg_ne rfl (zg_ne rfl (zg_eq (mb_52 x))))))))) (zg_ne rfl (zg_ne rfl rfl)) ?_
  refine zw_iload_n 112 f135_111 rfl rfl ?_
  refine zw_dup2 113 f135_112 rfl rfl rfl ?_
  refine zw_laload 6 0 114 f135_113 rfl (zg_ne rfl (zg_ne rfl (zg_ne rfl (zg_ne rfl (zg_ne rfl (zg_ne rfl (zg_ne rfl (zg_ne rfl (mb_63 x))))))))) (by decide +kernel) (by decide +kernel) (by decide +kernel) rfl ?_
  refine zw_aload_n 115 f135_114 rfl rfl ?_
  refine zw_getfield 118 f135_115 rfl g135_161_12 (zg_eq (zg_ne rfl (zg_ne rfl (zg_ne rfl (zg_ne rfl (zg_ne rfl (zg_ne rfl (zg_eq (mb_52 x))))))))) (zg_eq (zg_ne rfl rfl)) ?_
  refine zw_ldiv 0 119 f135_118 rfl (by decide +kernel) (by decide +kernel) ?_
  refine zw_lastoreS 6 120 f135_119 rfl (zg_ne rfl (zg_ne rfl (zg_ne rfl (zg_ne rfl (zg_ne rfl (zg_ne rfl (zg_ne rfl (zg_ne rfl (mb_63 x))))))))) (by decide +kernel) (by decide +kernel) (by decide +kernel) rfl ?_
  refine zw_iinc 7 [(1, .int 7), (0, .ref 52)] 123 f135_120 rfl rfl (by decide +kernel) (by decide +kernel) rfl ?_
  refine zw_goto 101 f135_123 (by decide +kernel) ?_
  refine zw_iload_n 102 f135_101 rfl rfl ?_
  refine zw_bipush 8 104 f135_102 rfl (by decide +kernel) ?_
  refine zw_ic_ge_f 107 126 f135_104 (by decide +kernel) rfl (by decide +kernel) ?_
  refine zw_aload_n 108 f135_107 rfl rfl ?_
  refine zw_getfield 111 f135_108 rfl g135_44_12 (zg_eq (zg_ne rfl (zg_ne rfl (zg_ne rfl (zg_ne rfl (zg_ne rfl (zg_ne rfl (zg_eq (mb_52 x))))))))) (zg_ne rfl (zg_ne rfl rfl)) ?_
  refine zw_iload_n 112 f135_111 rfl rfl ?_
  refine zw_dup2 113 f135_112 rfl rfl rfl ?_
  refine zw_laload 7 0 114 f135_113 rfl (zg_ne rfl (zg_ne rfl (zg_ne rfl (zg_ne rfl (zg_ne rfl (zg_ne rfl (zg_ne rfl (zg_ne rfl (mb_63 x))))))))) (by decide +kernel) (by decide +kernel) (by decide +kernel) rfl ?_
  refine zw_aload_n 115 f135_114 rfl rfl ?_
  refine zw_getfield 118 f135_115 rfl g135_161_12 (zg_eq (zg_ne rfl (zg_ne rfl (zg_ne rfl (zg_ne rfl (zg_ne rfl (zg_ne rfl (zg_eq (mb_52 x))))))))) (zg_eq (zg_ne rfl rfl)) ?_
  refine zw_ldiv 0 119 f135_118 rfl (by decide +kernel) (by decide +kernel) ?_
  refine zw_lastoreS 7 120 f135_119 rfl (zg_ne rfl (zg_ne rfl (zg_ne rfl (zg_ne rfl (zg_ne rfl (zg_ne rfl (zg_ne rfl (zg_ne rfl (mb_63 x))))))))) (by decide +kernel) (by decide +kernel) (by decide +kernel) rfl ?_
  refine zw_iinc 8 [(1, .int 8), (0, .ref 52)] 123 f135_120 rfl rfl (by decide +kernel) (by decide +kernel) rfl ?_
  refine zw_goto 101 f135_123 (by decide +kernel) ?_
  refine zw_iload_n 102 f135_101 rfl rfl ?_
  refine zw_bipush 8 104 f135_102 rfl (by decide +kernel) ?_
  refine zw_ic_ge_t 126 f135_104 (by decide +kernel) (by decide +kernel) ?_
  refine zw_aload_n 127 f135_126 rfl rfl ?_
  refine zw_dup 128 f135_127 rfl rfl ?_
  refine zw_getfield 131 f135_128 rfl g135_40_12 (zg_eq (zg_ne rfl (zg_ne rfl (zg_ne rfl (zg_ne rfl (zg_ne rfl (zg_ne rfl (zg_eq (mb_52 x))))))))) (zg_ne rfl (zg_ne rfl rfl)) ?_
  refine zw_aload_n 132 f135_131 rfl rfl ?_
  refine zw_getfield 135 f135_132 rfl g135_161_12 (zg_eq (zg_ne rfl (zg_ne rfl (zg_ne rfl (zg_ne rfl (zg_ne rfl (zg_ne rfl (zg_eq (mb_52 x))))))))) (zg_eq (zg_ne rfl rfl)) ?_
  refine zw_ldiv 1 136 f135_135 rfl (by decide +kernel) (by decide +kernel) ?_
  refine zw_putfieldS 139 f135_136 rfl g135_40_12 (zg_eq (zg_ne rfl (zg_ne rfl (zg_ne rfl (zg_ne rfl (zg_ne rfl (zg_ne rfl (zg_eq (mb_52 x))))))))) rfl (zg_ne rfl (zg_ne rfl rfl)) (by decide +kernel) ?_
  refine zw_vreturn f135_139 r135 u135 ⟨rfl, ?_⟩
  refine zw_vreturn f138_238 r138 u138 ⟨rfl, ?_⟩
  refine zw_aload_n 5 f140_4 rfl rfl ?_
  refine zw_iload_n 6 f140_5 rfl rfl ?_
  refine zw_virtual_i 9 0 0 [.ref 52, .int 0] [(0, .ref 52), (1, .int 0)] f140_6 rfl n140_205 k140_205_12 rfl (zg_eq (zg_ne rfl (zg_ne rfl (zg_ne rfl (zg_ne rfl (zg_ne rfl (zg_ne rfl (zg_eq (mb_52 x))))))))) (by decide +kernel) (Nat.le_of_ble_eq_true rfl) rfl rfl (by decide +kernel) (by decide +kernel) rfl (Nat.le_of_ble_eq_true rfl) rfl ?_
  refine zw_aload_n 1 f122_0 rfl rfl ?_
  refine zw_iconst 0 2 f122_1 rfl (by decide +kernel) ?_
  refine zw_putfieldS 5 f122_2 rfl g122_111_12 (zg_eq (zg_ne rfl (zg_ne rfl (zg_ne rfl (zg_ne rfl (zg_ne rfl (zg_ne rfl (zg_eq (mb_52 x))))))))) rfl (zg_ne rfl (zg_ne rfl rfl)) (by decide +kernel) ?_
  refine zw_iload_n 6 f122_5 rfl rfl ?_
  refine zw_ireturn f122_6 r122 u122 ⟨_, rfl, ?_⟩
  refine zw_ireturn f140_9 r140 u140 ⟨_, rfl, ?_⟩
  refine zw_ireturn f141_123 r141 u141 ?_
  exact rfl
set_option maxRecDepth 100000 in
set_option maxHeartbeats 0 in
theorem m_marks_r (ro : UInt32 → Nat × (Nat → Int32)) (x : Nat → va_E) (a b c : Int32) : zWp ro 142 0 [(0, .ref 52), (1, .int a), (2, .int b), (3, .int c)] [] (hMx x) 0 0 (fun r _ => r = some (.int (-1))) := by
  refine zw_aload_n 1 f142_0 rfl rfl ?_
  refine zw_iload_n 2 f142_1 rfl rfl ?_
  refine zw_virtual_i 5 0 0 [.ref 52, .int a] [(0, .ref 52), (1, .int a)] f142_2 rfl n142_215 k142_215_12 rfl (mb_52 x) (by decide +kernel) (Nat.le_of_ble_eq_true rfl) rfl rfl (by decide +kernel) (by decide +kernel) rfl (Nat.le_of_ble_eq_true rfl) rfl ?_
  refine zw_iload_n 1 f123_0 rfl rfl ?_
  refine zw_iconst 0 2 f123_1 rfl (by decide +kernel) ?_
  refine zw_aload_n 3 f123_2 rfl rfl ?_
  refine zw_getfield 6 f123_3 rfl g123_114_12 (mb_52 x) rfl ?_
  refine zw_iconst 1 7 f123_6 rfl (by decide +kernel) ?_
  refine zw_isub (-1) 8 f123_7 rfl (by decide +kernel) ?_
  refine zw_static_i 11 0 0 [.int a, .int 0, .int (-1)] [] [(0, .int a), (1, .int 0), (2, .int (-1))] f123_8 rfl k123_117_99 rfl (by decide +kernel) (Nat.le_of_ble_eq_true rfl) (Nat.le_of_ble_eq_true rfl) rfl rfl (by decide +kernel) (by decide +kernel) rfl (Nat.le_of_ble_eq_true rfl) rfl ?_
  refine zw_iload_n 1 f120_0 rfl rfl ?_
  refine zw_iload_n 2 f120_1 rfl rfl ?_
  refine zw_ic_lt 5 14 f120_2 (by decide +kernel) rfl (fun hc1 => ?_) (fun hc1 => ?_)
  · refine zw_iconst 0 15 f120_14 rfl (by decide +kernel) ?_
    refine zw_zreturn f120_15 r120 u120 (by decide +kernel) ⟨_, rfl, ?_⟩
    refine zw_zreturn f123_11 r123 u123 (by decide +kernel) ⟨_, rfl, ?_⟩
    refine zw_if_ne_f 8 14 f142_5 (by decide +kernel) rfl (by decide +kernel) ?_
    refine zw_aload_n 9 f142_8 rfl rfl ?_
    refine zw_iconst 1 10 f142_9 rfl (by decide +kernel) ?_
    refine zw_virtual_i 13 0 0 [.ref 52, .int 1] [(0, .ref 52), (1, .int 1)] f142_10 rfl n142_209 k142_209_12 rfl (mb_52 x) (by decide +kernel) (Nat.le_of_ble_eq_true rfl) rfl rfl (by decide +kernel) (by decide +kernel) rfl (Nat.le_of_ble_eq_true rfl) rfl ?_
    refine zw_aload_n 1 f121_0 rfl rfl ?_
    refine zw_iload_n 2 f121_1 rfl rfl ?_
    refine zw_putfield 5 f121_2 rfl g121_111_12 (mb_52 x) rfl (zg_lt rfl) (by decide +kernel) ?_
    refine zw_iconst (-1) 6 f121_5 rfl (by decide +kernel) ?_
    refine zw_ireturn f121_6 r121 u121 ⟨_, rfl, ?_⟩
    refine zw_ireturn f142_13 r142 u142 ?_
    exact rfl
  · refine zw_iload_n 6 f120_5 rfl rfl ?_
    refine zw_iload_n 7 f120_6 rfl rfl ?_
    refine zw_ic_gt_t 14 f120_7 (by decide +kernel) (zl_m1 hc1) ?_
    refine zw_iconst 0 15 f120_14 rfl (by decide +kernel) ?_
    refine zw_zreturn f120_15 r120 u120 (by decide +kernel) ⟨_, rfl, ?_⟩
    refine zw_zreturn f123_11 r123 u123 (by decide +kernel) ⟨_, rfl, ?_⟩
    refine zw_if_ne_f 8 14 f142_5 (by decide +kernel) rfl (by decide +kernel) ?_
    refine zw_aload_n 9 f142_8 rfl rfl ?_
    refine zw_iconst 1 10 f142_9 rfl (by decide +kernel) ?_
    refine zw_virtual_i 13 0 0 [.ref 52, .int 1] [(0, .ref 52), (1, .int 1)] f142_10 rfl n142_209 k142_209_12 rfl (mb_52 x) (by decide +kernel) (Nat.le_of_ble_eq_true rfl) rfl rfl (by decide +kernel) (by decide +kernel) rfl (Nat.le_of_ble_eq_true rfl) rfl ?_
    refine zw_aload_n 1 f121_0 rfl rfl ?_
    refine zw_iload_n 2 f121_1 rfl rfl ?_
    refine zw_putfield 5 f121_2 rfl g121_111_12 (mb_52 x) rfl (zg_lt rfl) (by decide +kernel) ?_
    refine zw_iconst (-1) 6 f121_5 rfl (by decide +kernel) ?_
    refine zw_ireturn f121_6 r121 u121 ⟨_, rfl, ?_⟩
    refine zw_ireturn f142_13 r142 u142 ?_
    exact rfl
set_option maxRecDepth 100000 in
set_option maxHeartbeats 0 in
theorem m_own_r (ro : UInt32 → Nat × (Nat → Int32)) (x : Nat → va_E) (a b : Int32) : zWp ro 143 0 [(0, .ref 52), (1, .int a), (2, .int b)] [] (hMx x) 0 0 (fun r _ => r = some (.int (-1))) := by
  refine zw_aload_n 1 f143_0 rfl rfl ?_
  refine zw_iload_n 2 f143_1 rfl rfl ?_
  refine zw_virtual_i 5 0 0 [.ref 52, .int a] [(0, .ref 52), (1, .int a)] f143_2 rfl n143_215 k143_215_12 rfl (mb_52 x) (by decide +kernel) (Nat.le_of_ble_eq_true rfl) rfl rfl (by decide +kernel) (by decide +kernel) rfl (Nat.le_of_ble_eq_true rfl) rfl ?_
  refine zw_iload_n 1 f123_0 rfl rfl ?_
  refine zw_iconst 0 2 f123_1 rfl (by decide +kernel) ?_
  refine zw_aload_n 3 f123_2 rfl rfl ?_
  refine zw_getfield 6 f123_3 rfl g123_114_12 (mb_52 x) rfl ?_
  refine zw_iconst 1 7 f123_6 rfl (by decide +kernel) ?_
  refine zw_isub (-1) 8 f123_7 rfl (by decide +kernel) ?_
  refine zw_static_i 11 0 0 [.int a, .int 0, .int (-1)] [] [(0, .int a), (1, .int 0), (2, .int (-1))] f123_8 rfl k123_117_99 rfl (by decide +kernel) (Nat.le_of_ble_eq_true rfl) (Nat.le_of_ble_eq_true rfl) rfl rfl (by decide +kernel) (by decide +kernel) rfl (Nat.le_of_ble_eq_true rfl) rfl ?_
  refine zw_iload_n 1 f120_0 rfl rfl ?_
  refine zw_iload_n 2 f120_1 rfl rfl ?_
  refine zw_ic_lt 5 14 f120_2 (by decide +kernel) rfl (fun hc1 => ?_) (fun hc1 => ?_)
  · refine zw_iconst 0 15 f120_14 rfl (by decide +kernel) ?_
    refine zw_zreturn f120_15 r120 u120 (by decide +kernel) ⟨_, rfl, ?_⟩
    refine zw_zreturn f123_11 r123 u123 (by decide +kernel) ⟨_, rfl, ?_⟩
    refine zw_if_eq_t 16 f143_5 (by decide +kernel) (by decide +kernel) ?_
    refine zw_aload_n 17 f143_16 rfl rfl ?_
    refine zw_iconst 1 18 f143_17 rfl (by decide +kernel) ?_
    refine zw_virtual_i 21 0 0 [.ref 52, .int 1] [(0, .ref 52), (1, .int 1)] f143_18 rfl n143_209 k143_209_12 rfl (mb_52 x) (by decide +kernel) (Nat.le_of_ble_eq_true rfl) rfl rfl (by decide +kernel) (by decide +kernel) rfl (Nat.le_of_ble_eq_true rfl) rfl ?_
    refine zw_aload_n 1 f121_0 rfl rfl ?_
    refine zw_iload_n 2 f121_1 rfl rfl ?_
    refine zw_putfield 5 f121_2 rfl g121_111_12 (mb_52 x) rfl (zg_lt rfl) (by decide +kernel) ?_
    refine zw_iconst (-1) 6 f121_5 rfl (by decide +kernel) ?_
    refine zw_ireturn f121_6 r121 u121 ⟨_, rfl, ?_⟩
    refine zw_ireturn f143_21 r143 u143 ?_
    exact rfl
  · refine zw_iload_n 6 f120_5 rfl rfl ?_
    refine zw_iload_n 7 f120_6 rfl rfl ?_
    refine zw_ic_gt_t 14 f120_7 (by decide +kernel) (zl_m1 hc1) ?_
    refine zw_iconst 0 15 f120_14 rfl (by decide +kernel) ?_
    refine zw_zreturn f120_15 r120 u120 (by decide +kernel) ⟨_, rfl, ?_⟩
    refine zw_zreturn f123_11 r123 u123 (by decide +kernel) ⟨_, rfl, ?_⟩
    refine zw_if_eq_t 16 f143_5 (by decide +kernel) (by decide +kernel) ?_
    refine zw_aload_n 17 f143_16 rfl rfl ?_
    refine zw_iconst 1 18 f143_17 rfl (by decide +kernel) ?_
    refine zw_virtual_i 21 0 0 [.ref 52, .int 1] [(0, .ref 52), (1, .int 1)] f143_18 rfl n143_209 k143_209_12 rfl (mb_52 x) (by decide +kernel) (Nat.le_of_ble_eq_true rfl) rfl rfl (by decide +kernel) (by decide +kernel) rfl (Nat.le_of_ble_eq_true rfl) rfl ?_
    refine zw_aload_n 1 f121_0 rfl rfl ?_
    refine zw_iload_n 2 f121_1 rfl rfl ?_
    refine zw_putfield 5 f121_2 rfl g121_111_12 (mb_52 x) rfl (zg_lt rfl) (by decide +kernel) ?_
    refine zw_iconst (-1) 6 f121_5 rfl (by decide +kernel) ?_
    refine zw_ireturn f121_6 r121 u121 ⟨_, rfl, ?_⟩
    refine zw_ireturn f143_21 r143 u143 ?_
    exact rfl
set_option maxRecDepth 100000 in
set_option maxHeartbeats 0 in
theorem m_tips_r (ro : UInt32 → Nat × (Nat → Int32)) (x : Nat → va_E) (a b : Int32) : zWp ro 145 0 [(0, .ref 52), (1, .int a), (2, .int b)] [] (hMx x) 0 0 (fun r _ => r = some (.int (-1))) := by
  refine zw_aload_n 1 f145_0 rfl rfl ?_
  refine zw_iload_n 2 f145_1 rfl rfl ?_
  refine zw_virtual_i 5 0 0 [.ref 52, .int a] [(0, .ref 52), (1, .int a)] f145_2 rfl n145_215 k145_215_12 rfl (mb_52 x) (by decide +kernel) (Nat.le_of_ble_eq_true rfl) rfl rfl (by decide +kernel) (by decide +kernel) rfl (Nat.le_of_ble_eq_true rfl) rfl ?_
  refine zw_iload_n 1 f123_0 rfl rfl ?_
  refine zw_iconst 0 2 f123_1 rfl (by decide +kernel) ?_
  refine zw_aload_n 3 f123_2 rfl rfl ?_
  refine zw_getfield 6 f123_3 rfl g123_114_12 (mb_52 x) rfl ?_
  refine zw_iconst 1 7 f123_6 rfl (by decide +kernel) ?_
  refine zw_isub (-1) 8 f123_7 rfl (by decide +kernel) ?_
  refine zw_static_i 11 0 0 [.int a, .int 0, .int (-1)] [] [(0, .int a), (1, .int 0), (2, .int (-1))] f123_8 rfl k123_117_99 rfl (by decide +kernel) (Nat.le_of_ble_eq_true rfl) (Nat.le_of_ble_eq_true rfl) rfl rfl (by decide +kernel) (by decide +kernel) rfl (Nat.le_of_ble_eq_true rfl) rfl ?_
  refine zw_iload_n 1 f120_0 rfl rfl ?_
  refine zw_iload_n 2 f120_1 rfl rfl ?_
  refine zw_ic_lt 5 14 f120_2 (by decide +kernel) rfl (fun hc1 => ?_) (fun hc1 => ?_)
  · refine zw_iconst 0 15 f120_14 rfl (by decide +kernel) ?_
    refine zw_zreturn f120_15 r120 u120 (by decide +kernel) ⟨_, rfl, ?_⟩
    refine zw_zreturn f123_11 r123 u123 (by decide +kernel) ⟨_, rfl, ?_⟩
    refine zw_if_eq_t 17 f145_5 (by decide +kernel) (by decide +kernel) ?_
    refine zw_aload_n 18 f145_17 rfl rfl ?_
    refine zw_iconst 1 19 f145_18 rfl (by decide +kernel) ?_
    refine zw_virtual_i 22 0 0 [.ref 52, .int 1] [(0, .ref 52), (1, .int 1)] f145_19 rfl n145_209 k145_209_12 rfl (mb_52 x) (by decide +kernel) (Nat.le_of_ble_eq_true rfl) rfl rfl (by decide +kernel) (by decide +kernel) rfl (Nat.le_of_ble_eq_true rfl) rfl ?_
    refine zw_aload_n 1 f121_0 rfl rfl ?_
    refine zw_iload_n 2 f121_1 rfl rfl ?_
    refine zw_putfield 5 f121_2 rfl g121_111_12 (mb_52 x) rfl (zg_lt rfl) (by decide +kernel) ?_
    refine zw_iconst (-1) 6 f121_5 rfl (by decide +kernel) ?_
    refine zw_ireturn f121_6 r121 u121 ⟨_, rfl, ?_⟩
    refine zw_ireturn f145_22 r145 u145 ?_
    exact rfl
  · refine zw_iload_n 6 f120_5 rfl rfl ?_
    refine zw_iload_n 7 f120_6 rfl rfl ?_
    refine zw_ic_gt_t 14 f120_7 (by decide +kernel) (zl_m1 hc1) ?_
    refine zw_iconst 0 15 f120_14 rfl (by decide +kernel) ?_
    refine zw_zreturn f120_15 r120 u120 (by decide +kernel) ⟨_, rfl, ?_⟩
    refine zw_zreturn f123_11 r123 u123 (by decide +kernel) ⟨_, rfl, ?_⟩
    refine zw_if_eq_t 17 f145_5 (by decide +kernel) (by decide +kernel) ?_
    refine zw_aload_n 18 f145_17 rfl rfl ?_
    refine zw_iconst 1 19 f145_18 rfl (by decide +kernel) ?_
    refine zw_virtual_i 22 0 0 [.ref 52, .int 1] [(0, .ref 52), (1, .int 1)] f145_19 rfl n145_209 k145_209_12 rfl (mb_52 x) (by decide +kernel) (Nat.le_of_ble_eq_true rfl) rfl rfl (by decide +kernel) (by decide +kernel) rfl (Nat.le_of_ble_eq_true rfl) rfl ?_
    refine zw_aload_n 1 f121_0 rfl rfl ?_
    refine zw_iload_n 2 f121_1 rfl rfl ?_
    refine zw_putfield 5 f121_2 rfl g121_111_12 (mb_52 x) rfl (zg_lt rfl) (by decide +kernel) ?_
    refine zw_iconst (-1) 6 f121_5 rfl (by decide +kernel) ?_
    refine zw_ireturn f121_6 r121 u121 ⟨_, rfl, ?_⟩
    refine zw_ireturn f145_22 r145 u145 ?_
    exact rfl
set_option maxRecDepth 100000 in
set_option maxHeartbeats 0 in
theorem m_over_r (ro : UInt32 → Nat × (Nat → Int32)) (x : Nat → va_E) (a b : Int32) : zWp ro 146 0 [(0, .ref 52), (1, .int a), (2, .int b)] [] (hMx x) 0 0 (fun r _ => r = some (.int (-1))) := by
  refine zw_aload_n 1 f146_0 rfl rfl ?_
  refine zw_iload_n 2 f146_1 rfl rfl ?_
  refine zw_virtual_i 5 0 0 [.ref 52, .int a] [(0, .ref 52), (1, .int a)] f146_2 rfl n146_215 k146_215_12 rfl (mb_52 x) (by decide +kernel) (Nat.le_of_ble_eq_true rfl) rfl rfl (by decide +kernel) (by decide +kernel) rfl (Nat.le_of_ble_eq_true rfl) rfl ?_
  refine zw_iload_n 1 f123_0 rfl rfl ?_
  refine zw_iconst 0 2 f123_1 rfl (by decide +kernel) ?_
  refine zw_aload_n 3 f123_2 rfl rfl ?_
  refine zw_getfield 6 f123_3 rfl g123_114_12 (mb_52 x) rfl ?_
  refine zw_iconst 1 7 f123_6 rfl (by decide +kernel) ?_
  refine zw_isub (-1) 8 f123_7 rfl (by decide +kernel) ?_
  refine zw_static_i 11 0 0 [.int a, .int 0, .int (-1)] [] [(0, .int a), (1, .int 0), (2, .int (-1))] f123_8 rfl k123_117_99 rfl (by decide +kernel) (Nat.le_of_ble_eq_true rfl) (Nat.le_of_ble_eq_true rfl) rfl rfl (by decide +kernel) (by decide +kernel) rfl (Nat.le_of_ble_eq_true rfl) rfl ?_
  refine zw_iload_n 1 f120_0 rfl rfl ?_
  refine zw_iload_n 2 f120_1 rfl rfl ?_
  refine zw_ic_lt 5 14 f120_2 (by decide +kernel) rfl (fun hc1 => ?_) (fun hc1 => ?_)
  · refine zw_iconst 0 15 f120_14 rfl (by decide +kernel) ?_
    refine zw_zreturn f120_15 r120 u120 (by decide +kernel) ⟨_, rfl, ?_⟩
    refine zw_zreturn f123_11 r123 u123 (by decide +kernel) ⟨_, rfl, ?_⟩
    refine zw_if_eq_t 17 f146_5 (by decide +kernel) (by decide +kernel) ?_
    refine zw_aload_n 18 f146_17 rfl rfl ?_
    refine zw_iconst 1 19 f146_18 rfl (by decide +kernel) ?_
    refine zw_virtual_i 22 0 0 [.ref 52, .int 1] [(0, .ref 52), (1, .int 1)] f146_19 rfl n146_209 k146_209_12 rfl (mb_52 x) (by decide +kernel) (Nat.le_of_ble_eq_true rfl) rfl rfl (by decide +kernel) (by decide +kernel) rfl (Nat.le_of_ble_eq_true rfl) rfl ?_
    refine zw_aload_n 1 f121_0 rfl rfl ?_
    refine zw_iload_n 2 f121_1 rfl rfl ?_
    refine zw_putfield 5 f121_2 rfl g121_111_12 (mb_52 x) rfl (zg_lt rfl) (by decide +kernel) ?_
    refine zw_iconst (-1) 6 f121_5 rfl (by decide +kernel) ?_
    refine zw_ireturn f121_6 r121 u121 ⟨_, rfl, ?_⟩
    refine zw_ireturn f146_22 r146 u146 ?_
    exact rfl
  · refine zw_iload_n 6 f120_5 rfl rfl ?_
    refine zw_iload_n 7 f120_6 rfl rfl ?_
    refine zw_ic_gt_t 14 f120_7 (by decide +kernel) (zl_m1 hc1) ?_
    refine zw_iconst 0 15 f120_14 rfl (by decide +kernel) ?_
    refine zw_zreturn f120_15 r120 u120 (by decide +kernel) ⟨_, rfl, ?_⟩
    refine zw_zreturn f123_11 r123 u123 (by decide +kernel) ⟨_, rfl, ?_⟩
    refine zw_if_eq_t 17 f146_5 (by decide +kernel) (by decide +kernel) ?_
    refine zw_aload_n 18 f146_17 rfl rfl ?_
    refine zw_iconst 1 19 f146_18 rfl (by decide +kernel) ?_
    refine zw_virtual_i 22 0 0 [.ref 52, .int 1] [(0, .ref 52), (1, .int 1)] f146_19 rfl n146_209 k146_209_12 rfl (mb_52 x) (by decide +kernel) (Nat.le_of_ble_eq_true rfl) rfl rfl (by decide +kernel) (by decide +kernel) rfl (Nat.le_of_ble_eq_true rfl) rfl ?_
    refine zw_aload_n 1 f121_0 rfl rfl ?_
    refine zw_iload_n 2 f121_1 rfl rfl ?_
    refine zw_putfield 5 f121_2 rfl g121_111_12 (mb_52 x) rfl (zg_lt rfl) (by decide +kernel) ?_
    refine zw_iconst (-1) 6 f121_5 rfl (by decide +kernel) ?_
    refine zw_ireturn f121_6 r121 u121 ⟨_, rfl, ?_⟩
    refine zw_ireturn f146_22 r146 u146 ?_
    exact rfl
set_option maxRecDepth 100000 in
set_option maxHeartbeats 0 in
theorem m_pipe_r (ro : UInt32 → Nat × (Nat → Int32)) (x : Nat → va_E) (a b c : Int32) : zWp ro 147 0 [(0, .ref 52), (1, .int a), (2, .int b), (3, .int c)] [] (hMx x) 0 0 (fun r _ => r = some (.int (-1))) := by
  refine zw_iload_n 1 f147_0 rfl rfl ?_
  refine zw_iconst (-1) 2 f147_1 rfl (by decide +kernel) ?_
  refine zw_ic_eq 5 13 f147_2 (by decide +kernel) rfl (fun hc1 => ?_) (fun hc1 => ?_)
  · refine zw_aload_n 14 f147_13 rfl rfl ?_
    refine zw_iload_n 15 f147_14 rfl rfl ?_
    refine zw_iload_n 16 f147_15 rfl rfl ?_
    refine zw_virtual_i 19 0 0 [.ref 52, .int a, .int b] [(0, .ref 52), (1, .int a), (2, .int b)] f147_16 rfl n147_221 k147_221_12 rfl (mb_52 x) (by decide +kernel) (Nat.le_of_ble_eq_true rfl) rfl rfl (by decide +kernel) (by decide +kernel) rfl (Nat.le_of_ble_eq_true rfl) rfl ?_
    refine zw_iload_n 1 f144_0 rfl rfl ?_
    refine zw_iconst (-1) 2 f144_1 rfl (by decide +kernel) ?_
    refine zw_ic_eq 5 18 f144_2 (by decide +kernel) rfl (fun hc2 => ?_) (fun hc2 => ?_)
    · refine zw_iconst 1 19 f144_18 rfl (by decide +kernel) ?_
      refine zw_goto 23 f144_19 (by decide +kernel) ?_
      refine zw_zreturn f144_23 r144 u144 (by decide +kernel) ⟨_, rfl, ?_⟩
      refine zw_if_eq_f 22 46 f147_19 (by decide +kernel) rfl (by decide +kernel) ?_
      refine zw_iload_n 23 f147_22 rfl rfl ?_
      refine zw_iconst (-1) 24 f147_23 rfl (by decide +kernel) ?_
      refine zw_ic_ne_f 27 32 f147_24 (by decide +kernel) rfl (fun q => q hc1) ?_
      refine zw_iload_n 28 f147_27 rfl rfl ?_
      refine zw_iconst (-1) 29 f147_28 rfl (by decide +kernel) ?_
      refine zw_ic_eq_t 46 f147_29 (by decide +kernel) hc2 ?_
      refine zw_iconst 0 47 f147_46 rfl (by decide +kernel) ?_
      refine zw_istore [(4, .int 0), (0, .ref 52), (1, .int a), (2, .int b), (3, .int c)] 49 f147_47 rfl (by decide +kernel) rfl ?_
      refine zw_iload 51 f147_49 rfl rfl ?_
      refine zw_if_ne_f 54 60 f147_51 (by decide +kernel) rfl (by decide +kernel) ?_
      refine zw_aload_n 55 f147_54 rfl rfl ?_
      refine zw_iconst 1 56 f147_55 rfl (by decide +kernel) ?_
      refine zw_virtual_i 59 0 0 [.ref 52, .int 1] [(0, .ref 52), (1, .int 1)] f147_56 rfl n147_209 k147_209_12 rfl (mb_52 x) (by decide +kernel) (Nat.le_of_ble_eq_true rfl) rfl rfl (by decide +kernel) (by decide +kernel) rfl (Nat.le_of_ble_eq_true rfl) rfl ?_
      refine zw_aload_n 1 f121_0 rfl rfl ?_
      refine zw_iload_n 2 f121_1 rfl rfl ?_
      refine zw_putfield 5 f121_2 rfl g121_111_12 (mb_52 x) rfl (zg_lt rfl) (by decide +kernel) ?_
      refine zw_iconst (-1) 6 f121_5 rfl (by decide +kernel) ?_
      refine zw_ireturn f121_6 r121 u121 ⟨_, rfl, ?_⟩
      refine zw_ireturn f147_59 r147 u147 ?_
      exact rfl
    · refine zw_aload_n 6 f144_5 rfl rfl ?_
      refine zw_iload_n 7 f144_6 rfl rfl ?_
      refine zw_virtual_i 10 0 0 [.ref 52, .int b] [(0, .ref 52), (1, .int b)] f144_7 rfl n144_215 k144_215_12 rfl (mb_52 x) (by decide +kernel) (Nat.le_of_ble_eq_true rfl) rfl rfl (by decide +kernel) (by decide +kernel) rfl (Nat.le_of_ble_eq_true rfl) rfl ?_
      refine zw_iload_n 1 f123_0 rfl rfl ?_
      refine zw_iconst 0 2 f123_1 rfl (by decide +kernel) ?_
      refine zw_aload_n 3 f123_2 rfl rfl ?_
      refine zw_getfield 6 f123_3 rfl g123_114_12 (mb_52 x) rfl ?_
      refine zw_iconst 1 7 f123_6 rfl (by decide +kernel) ?_
      refine zw_isub (-1) 8 f123_7 rfl (by decide +kernel) ?_
      refine zw_static_i 11 0 0 [.int b, .int 0, .int (-1)] [] [(0, .int b), (1, .int 0), (2, .int (-1))] f123_8 rfl k123_117_99 rfl (by decide +kernel) (Nat.le_of_ble_eq_true rfl) (Nat.le_of_ble_eq_true rfl) rfl rfl (by decide +kernel) (by decide +kernel) rfl (Nat.le_of_ble_eq_true rfl) rfl ?_
      refine zw_iload_n 1 f120_0 rfl rfl ?_
      refine zw_iload_n 2 f120_1 rfl rfl ?_
      refine zw_ic_lt 5 14 f120_2 (by decide +kernel) rfl (fun hc3 => ?_) (fun hc3 => ?_)
      · refine zw_iconst 0 15 f120_14 rfl (by decide +kernel) ?_
        refine zw_zreturn f120_15 r120 u120 (by decide +kernel) ⟨_, rfl, ?_⟩
        refine zw_zreturn f123_11 r123 u123 (by decide +kernel) ⟨_, rfl, ?_⟩
        refine zw_if_eq_t 22 f144_10 (by decide +kernel) (by decide +kernel) ?_
        refine zw_iconst 0 23 f144_22 rfl (by decide +kernel) ?_
        refine zw_zreturn f144_23 r144 u144 (by decide +kernel) ⟨_, rfl, ?_⟩
        refine zw_if_eq_t 46 f147_19 (by decide +kernel) (by decide +kernel) ?_
        refine zw_iconst 0 47 f147_46 rfl (by decide +kernel) ?_
        refine zw_istore [(4, .int 0), (0, .ref 52), (1, .int a), (2, .int b), (3, .int c)] 49 f147_47 rfl (by decide +kernel) rfl ?_
        refine zw_iload 51 f147_49 rfl rfl ?_
        refine zw_if_ne_f 54 60 f147_51 (by decide +kernel) rfl (by decide +kernel) ?_
        refine zw_aload_n 55 f147_54 rfl rfl ?_
        refine zw_iconst 1 56 f147_55 rfl (by decide +kernel) ?_
        refine zw_virtual_i 59 0 0 [.ref 52, .int 1] [(0, .ref 52), (1, .int 1)] f147_56 rfl n147_209 k147_209_12 rfl (mb_52 x) (by decide +kernel) (Nat.le_of_ble_eq_true rfl) rfl rfl (by decide +kernel) (by decide +kernel) rfl (Nat.le_of_ble_eq_true rfl) rfl ?_
        refine zw_aload_n 1 f121_0 rfl rfl ?_
        refine zw_iload_n 2 f121_1 rfl rfl ?_
        refine zw_putfield 5 f121_2 rfl g121_111_12 (mb_52 x) rfl (zg_lt rfl) (by decide +kernel) ?_
        refine zw_iconst (-1) 6 f121_5 rfl (by decide +kernel) ?_
        refine zw_ireturn f121_6 r121 u121 ⟨_, rfl, ?_⟩
        refine zw_ireturn f147_59 r147 u147 ?_
        exact rfl
      · refine zw_iload_n 6 f120_5 rfl rfl ?_
        refine zw_iload_n 7 f120_6 rfl rfl ?_
        refine zw_ic_gt_t 14 f120_7 (by decide +kernel) (zl_m1 hc3) ?_
        refine zw_iconst 0 15 f120_14 rfl (by decide +kernel) ?_
        refine zw_zreturn f120_15 r120 u120 (by decide +kernel) ⟨_, rfl, ?_⟩
        refine zw_zreturn f123_11 r123 u123 (by decide +kernel) ⟨_, rfl, ?_⟩
        refine zw_if_eq_t 22 f144_10 (by decide +kernel) (by decide +kernel) ?_
        refine zw_iconst 0 23 f144_22 rfl (by decide +kernel) ?_
        refine zw_zreturn f144_23 r144 u144 (by decide +kernel) ⟨_, rfl, ?_⟩
        refine zw_if_eq_t 46 f147_19 (by decide +kernel) (by decide +kernel) ?_
        refine zw_iconst 0 47 f147_46 rfl (by decide +kernel) ?_
        refine zw_istore [(4, .int 0), (0, .ref 52), (1, .int a), (2, .int b), (3, .int c)] 49 f147_47 rfl (by decide +kernel) rfl ?_
        refine zw_iload 51 f147_49 rfl rfl ?_
        refine zw_if_ne_f 54 60 f147_51 (by decide +kernel) rfl (by decide +kernel) ?_
        refine zw_aload_n 55 f147_54 rfl rfl ?_
        refine zw_iconst 1 56 f147_55 rfl (by decide +kernel) ?_
        refine zw_virtual_i 59 0 0 [.ref 52, .int 1] [(0, .ref 52), (1, .int 1)] f147_56 rfl n147_209 k147_209_12 rfl (mb_52 x) (by decide +kernel) (Nat.le_of_ble_eq_true rfl) rfl rfl (by decide +kernel) (by decide +kernel) rfl (Nat.le_of_ble_eq_true rfl) rfl ?_
        refine zw_aload_n 1 f121_0 rfl rfl ?_
        refine zw_iload_n 2 f121_1 rfl rfl ?_
        refine zw_putfield 5 f121_2 rfl g121_111_12 (mb_52 x) rfl (zg_lt rfl) (by decide +kernel) ?_
        refine zw_iconst (-1) 6 f121_5 rfl (by decide +kernel) ?_
        refine zw_ireturn f121_6 r121 u121 ⟨_, rfl, ?_⟩
        refine zw_ireturn f147_59 r147 u147 ?_
        exact rfl
  · refine zw_aload_n 6 f147_5 rfl rfl ?_
    refine zw_iload_n 7 f147_6 rfl rfl ?_
    refine zw_virtual_i 10 0 0 [.ref 52, .int a] [(0, .ref 52), (1, .int a)] f147_7 rfl n147_215 k147_215_12 rfl (mb_52 x) (by decide +kernel) (Nat.le_of_ble_eq_true rfl) rfl rfl (by decide +kernel) (by decide +kernel) rfl (Nat.le_of_ble_eq_true rfl) rfl ?_
    refine zw_iload_n 1 f123_0 rfl rfl ?_
    refine zw_iconst 0 2 f123_1 rfl (by decide +kernel) ?_
    refine zw_aload_n 3 f123_2 rfl rfl ?_
    refine zw_getfield 6 f123_3 rfl g123_114_12 (mb_52 x) rfl ?_
    refine zw_iconst 1 7 f123_6 rfl (by decide +kernel) ?_
    refine zw_isub (-1) 8 f123_7 rfl (by decide +kernel) ?_
    refine zw_static_i 11 0 0 [.int a, .int 0, .int (-1)] [] [(0, .int a), (1, .int 0), (2, .int (-1))] f123_8 rfl k123_117_99 rfl (by decide +kernel) (Nat.le_of_ble_eq_true rfl) (Nat.le_of_ble_eq_true rfl) rfl rfl (by decide +kernel) (by decide +kernel) rfl (Nat.le_of_ble_eq_true rfl) rfl ?_
    refine zw_iload_n 1 f120_0 rfl rfl ?_
    refine zw_iload_n 2 f120_1 rfl rfl ?_
    refine zw_ic_lt 5 14 f120_2 (by decide +kernel) rfl (fun hc4 => ?_) (fun hc4 => ?_)
    · refine zw_iconst 0 15 f120_14 rfl (by decide +kernel) ?_
      refine zw_zreturn f120_15 r120 u120 (by decide +kernel) ⟨_, rfl, ?_⟩
      refine zw_zreturn f123_11 r123 u123 (by decide +kernel) ⟨_, rfl, ?_⟩
      refine zw_if_eq_t 46 f147_10 (by decide +kernel) (by decide +kernel) ?_
      refine zw_iconst 0 47 f147_46 rfl (by decide +kernel) ?_
      refine zw_istore [(4, .int 0), (0, .ref 52), (1, .int a), (2, .int b), (3, .int c)] 49 f147_47 rfl (by decide +kernel) rfl ?_
      refine zw_iload 51 f147_49 rfl rfl ?_
      refine zw_if_ne_f 54 60 f147_51 (by decide +kernel) rfl (by decide +kernel) ?_
      refine zw_aload_n 55 f147_54 rfl rfl ?_
      refine zw_iconst 1 56 f147_55 rfl (by decide +kernel) ?_
      refine zw_virtual_i 59 0 0 [.ref 52, .int 1] [(0, .ref 52), (1, .int 1)] f147_56 rfl n147_209 k147_209_12 rfl (mb_52 x) (by decide +kernel) (Nat.le_of_ble_eq_true rfl) rfl rfl (by decide +kernel) (by decide +kernel) rfl (Nat.le_of_ble_eq_true rfl) rfl ?_
      refine zw_aload_n 1 f121_0 rfl rfl ?_
      refine zw_iload_n 2 f121_1 rfl rfl ?_
      refine zw_putfield 5 f121_2 rfl g121_111_12 (mb_52 x) rfl (zg_lt rfl) (by decide +kernel) ?_
      refine zw_iconst (-1) 6 f121_5 rfl (by decide +kernel) ?_
      refine zw_ireturn f121_6 r121 u121 ⟨_, rfl, ?_⟩
      refine zw_ireturn f147_59 r147 u147 ?_
      exact rfl
    · refine zw_iload_n 6 f120_5 rfl rfl ?_
      refine zw_iload_n 7 f120_6 rfl rfl ?_
      refine zw_ic_gt_t 14 f120_7 (by decide +kernel) (zl_m1 hc4) ?_
      refine zw_iconst 0 15 f120_14 rfl (by decide +kernel) ?_
      refine zw_zreturn f120_15 r120 u120 (by decide +kernel) ⟨_, rfl, ?_⟩
      refine zw_zreturn f123_11 r123 u123 (by decide +kernel) ⟨_, rfl, ?_⟩
      refine zw_if_eq_t 46 f147_10 (by decide +kernel) (by decide +kernel) ?_
      refine zw_iconst 0 47 f147_46 rfl (by decide +kernel) ?_
      refine zw_istore [(4, .int 0), (0, .ref 52), (1, .int a), (2, .int b), (3, .int c)] 49 f147_47 rfl (by decide +kernel) rfl ?_
      refine zw_iload 51 f147_49 rfl rfl ?_
      refine zw_if_ne_f 54 60 f147_51 (by decide +kernel) rfl (by decide +kernel) ?_
      refine zw_aload_n 55 f147_54 rfl rfl ?_
      refine zw_iconst 1 56 f147_55 rfl (by decide +kernel) ?_
      refine zw_virtual_i 59 0 0 [.ref 52, .int 1] [(0, .ref 52), (1, .int 1)] f147_56 rfl n147_209 k147_209_12 rfl (mb_52 x) (by decide +kernel) (Nat.le_of_ble_eq_true rfl) rfl rfl (by decide +kernel) (by decide +kernel) rfl (Nat.le_of_ble_eq_true rfl) rfl ?_
      refine zw_aload_n 1 f121_0 rfl rfl ?_
      refine zw_iload_n 2 f121_1 rfl rfl ?_
      refine zw_putfield 5 f121_2 rfl g121_111_12 (mb_52 x) rfl (zg_lt rfl) (by decide +kernel) ?_
      refine zw_iconst (-1) 6 f121_5 rfl (by decide +kernel) ?_
      refine zw_ireturn f121_6 r121 u121 ⟨_, rfl, ?_⟩
      refine zw_ireturn f147_59 r147 u147 ?_
      exact rfl
set_option maxRecDepth 100000 in
set_option maxHeartbeats 0 in
theorem m_fill_r (ro : UInt32 → Nat × (Nat → Int32)) (x : Nat → va_E) (a b : Int32) : zWp ro 148 0 [(0, .ref 52), (1, .int a), (2, .int b)] [] (hMx x) 0 0 (fun r _ => r = some (.int (-1))) := by
  refine zw_aload_n 1 f148_0 rfl rfl ?_
  refine zw_iload_n 2 f148_1 rfl rfl ?_
  refine zw_virtual_i 5 0 0 [.ref 52, .int a] [(0, .ref 52), (1, .int a)] f148_2 rfl n148_215 k148_215_12 rfl (mb_52 x) (by decide +kernel) (Nat.le_of_ble_eq_true rfl) rfl rfl (by decide +kernel) (by decide +kernel) rfl (Nat.le_of_ble_eq_true rfl) rfl ?_
  refine zw_iload_n 1 f123_0 rfl rfl ?_
  refine zw_iconst 0 2 f123_1 rfl (by decide +kernel) ?_
  refine zw_aload_n 3 f123_2 rfl rfl ?_
  refine zw_getfield 6 f123_3 rfl g123_114_12 (mb_52 x) rfl ?_
  refine zw_iconst 1 7 f123_6 rfl (by decide +kernel) ?_
  refine zw_isub (-1) 8 f123_7 rfl (by decide +kernel) ?_
  refine zw_static_i 11 0 0 [.int a, .int 0, .int (-1)] [] [(0, .int a), (1, .int 0), (2, .int (-1))] f123_8 rfl k123_117_99 rfl (by decide +kernel) (Nat.le_of_ble_eq_true rfl) (Nat.le_of_ble_eq_true rfl) rfl rfl (by decide +kernel) (by decide +kernel) rfl (Nat.le_of_ble_eq_true rfl) rfl ?_
  refine zw_iload_n 1 f120_0 rfl rfl ?_
  refine zw_iload_n 2 f120_1 rfl rfl ?_
  refine zw_ic_lt 5 14 f120_2 (by decide +kernel) rfl (fun hc1 => ?_) (fun hc1 => ?_)
  · refine zw_iconst 0 15 f120_14 rfl (by decide +kernel) ?_
    refine zw_zreturn f120_15 r120 u120 (by decide +kernel) ⟨_, rfl, ?_⟩
    refine zw_zreturn f123_11 r123 u123 (by decide +kernel) ⟨_, rfl, ?_⟩
    refine zw_if_eq_t 19 f148_5 (by decide +kernel) (by decide +kernel) ?_
    refine zw_aload_n 20 f148_19 rfl rfl ?_
    refine zw_iconst 1 21 f148_20 rfl (by decide +kernel) ?_
    refine zw_virtual_i 24 0 0 [.ref 52, .int 1] [(0, .ref 52), (1, .int 1)] f148_21 rfl n148_209 k148_209_12 rfl (mb_52 x) (by decide +kernel) (Nat.le_of_ble_eq_true rfl) rfl rfl (by decide +kernel) (by decide +kernel) rfl (Nat.le_of_ble_eq_true rfl) rfl ?_
    refine zw_aload_n 1 f121_0 rfl rfl ?_
    refine zw_iload_n 2 f121_1 rfl rfl ?_
    refine zw_putfield 5 f121_2 rfl g121_111_12 (mb_52 x) rfl (zg_lt rfl) (by decide +kernel) ?_
    refine zw_iconst (-1) 6 f121_5 rfl (by decide +kernel) ?_
    refine zw_ireturn f121_6 r121 u121 ⟨_, rfl, ?_⟩
    refine zw_ireturn f148_24 r148 u148 ?_
    exact rfl
  · refine zw_iload_n 6 f120_5 rfl rfl ?_
    refine zw_iload_n 7 f120_6 rfl rfl ?_
    refine zw_ic_gt_t 14 f120_7 (by decide +kernel) (zl_m1 hc1) ?_
    refine zw_iconst 0 15 f120_14 rfl (by decide +kernel) ?_
    refine zw_zreturn f120_15 r120 u120 (by decide +kernel) ⟨_, rfl, ?_⟩
    refine zw_zreturn f123_11 r123 u123 (by decide +kernel) ⟨_, rfl, ?_⟩
    refine zw_if_eq_t 19 f148_5 (by decide +kernel) (by decide +kernel) ?_
    refine zw_aload_n 20 f148_19 rfl rfl ?_
    refine zw_iconst 1 21 f148_20 rfl (by decide +kernel) ?_
    refine zw_virtual_i 24 0 0 [.ref 52, .int 1] [(0, .ref 52), (1, .int 1)] f148_21 rfl n148_209 k148_209_12 rfl (mb_52 x) (by decide +kernel) (Nat.le_of_ble_eq_true rfl) rfl rfl (by decide +kernel) (by decide +kernel) rfl (Nat.le_of_ble_eq_true rfl) rfl ?_
    refine zw_aload_n 1 f121_0 rfl rfl ?_
    refine zw_iload_n 2 f121_1 rfl rfl ?_
    refine zw_putfield 5 f121_2 rfl g121_111_12 (mb_52 x) rfl (zg_lt rfl) (by decide +kernel) ?_
    refine zw_iconst (-1) 6 f121_5 rfl (by decide +kernel) ?_
    refine zw_ireturn f121_6 r121 u121 ⟨_, rfl, ?_⟩
    refine zw_ireturn f148_24 r148 u148 ?_
    exact rfl
set_option maxRecDepth 100000 in
set_option maxHeartbeats 0 in
theorem m_shut_r0 (ro : UInt32 → Nat × (Nat → Int32)) (x : Nat → va_E) (a : Int32) : zWp ro 149 0 [(0, .ref 52), (1, .int a), (2, .int 0)] [] (hMx x) 0 0 (fun r _ => r = some (.int (-1))) := by
  refine zw_aload_n 1 f149_0 rfl rfl ?_
  refine zw_iload_n 2 f149_1 rfl rfl ?_
  refine zw_virtual_i 5 0 0 [.ref 52, .int a] [(0, .ref 52), (1, .int a)] f149_2 rfl n149_218 k149_218_12 rfl (mb_52 x) (by decide +kernel) (Nat.le_of_ble_eq_true rfl) rfl rfl (by decide +kernel) (by decide +kernel) rfl (Nat.le_of_ble_eq_true rfl) rfl ?_
  refine zw_iload_n 1 f124_0 rfl rfl ?_
  refine zw_iconst 0 2 f124_1 rfl (by decide +kernel) ?_
  refine zw_aload_n 3 f124_2 rfl rfl ?_
  refine zw_getfield 6 f124_3 rfl g124_121_12 (mb_52 x) rfl ?_
  refine zw_iconst 1 7 f124_6 rfl (by decide +kernel) ?_
  refine zw_isub (-1) 8 f124_7 rfl (by decide +kernel) ?_
  refine zw_static_i 11 0 0 [.int a, .int 0, .int (-1)] [] [(0, .int a), (1, .int 0), (2, .int (-1))] f124_8 rfl k124_117_99 rfl (by decide +kernel) (Nat.le_of_ble_eq_true rfl) (Nat.le_of_ble_eq_true rfl) rfl rfl (by decide +kernel) (by decide +kernel) rfl (Nat.le_of_ble_eq_true rfl) rfl ?_
  refine zw_iload_n 1 f120_0 rfl rfl ?_
  refine zw_iload_n 2 f120_1 rfl rfl ?_
  refine zw_ic_lt 5 14 f120_2 (by decide +kernel) rfl (fun hc1 => ?_) (fun hc1 => ?_)
  · refine zw_iconst 0 15 f120_14 rfl (by decide +kernel) ?_
    refine zw_zreturn f120_15 r120 u120 (by decide +kernel) ⟨_, rfl, ?_⟩
    refine zw_zreturn f124_11 r124 u124 (by decide +kernel) ⟨_, rfl, ?_⟩
    refine zw_if_ne_f 8 14 f149_5 (by decide +kernel) rfl (by decide +kernel) ?_
    refine zw_aload_n 9 f149_8 rfl rfl ?_
    refine zw_iconst 1 10 f149_9 rfl (by decide +kernel) ?_
    refine zw_virtual_i 13 0 0 [.ref 52, .int 1] [(0, .ref 52), (1, .int 1)] f149_10 rfl n149_209 k149_209_12 rfl (mb_52 x) (by decide +kernel) (Nat.le_of_ble_eq_true rfl) rfl rfl (by decide +kernel) (by decide +kernel) rfl (Nat.le_of_ble_eq_true rfl) rfl ?_
    refine zw_aload_n 1 f121_0 rfl rfl ?_
    refine zw_iload_n 2 f121_1 rfl rfl ?_
    refine zw_putfield 5 f121_2 rfl g121_111_12 (mb_52 x) rfl (zg_lt rfl) (by decide +kernel) ?_
    refine zw_iconst (-1) 6 f121_5 rfl (by decide +kernel) ?_
    refine zw_ireturn f121_6 r121 u121 ⟨_, rfl, ?_⟩
    refine zw_ireturn f149_13 r149 u149 ?_
    exact rfl
  · refine zw_iload_n 6 f120_5 rfl rfl ?_
    refine zw_iload_n 7 f120_6 rfl rfl ?_
    refine zw_ic_gt_t 14 f120_7 (by decide +kernel) (zl_m1 hc1) ?_
    refine zw_iconst 0 15 f120_14 rfl (by decide +kernel) ?_
    refine zw_zreturn f120_15 r120 u120 (by decide +kernel) ⟨_, rfl, ?_⟩
    refine zw_zreturn f124_11 r124 u124 (by decide +kernel) ⟨_, rfl, ?_⟩
    refine zw_if_ne_f 8 14 f149_5 (by decide +kernel) rfl (by decide +kernel) ?_
    refine zw_aload_n 9 f149_8 rfl rfl ?_
    refine zw_iconst 1 10 f149_9 rfl (by decide +kernel) ?_
    refine zw_virtual_i 13 0 0 [.ref 52, .int 1] [(0, .ref 52), (1, .int 1)] f149_10 rfl n149_209 k149_209_12 rfl (mb_52 x) (by decide +kernel) (Nat.le_of_ble_eq_true rfl) rfl rfl (by decide +kernel) (by decide +kernel) rfl (Nat.le_of_ble_eq_true rfl) rfl ?_
    refine zw_aload_n 1 f121_0 rfl rfl ?_
    refine zw_iload_n 2 f121_1 rfl rfl ?_
    refine zw_putfield 5 f121_2 rfl g121_111_12 (mb_52 x) rfl (zg_lt rfl) (by decide +kernel) ?_
    refine zw_iconst (-1) 6 f121_5 rfl (by decide +kernel) ?_
    refine zw_ireturn f121_6 r121 u121 ⟨_, rfl, ?_⟩
    refine zw_ireturn f149_13 r149 u149 ?_
    exact rfl
set_option maxRecDepth 100000 in
set_option maxHeartbeats 0 in
theorem m_shut_r1 (ro : UInt32 → Nat × (Nat → Int32)) (x : Nat → va_E) (a : Int32) : zWp ro 149 0 [(0, .ref 52), (1, .int a), (2, .int 1)] [] (hMx x) 0 0 (fun r _ => r = some (.int (-1))) := by
  refine zw_aload_n 1 f149_0 rfl rfl ?_
  refine zw_iload_n 2 f149_1 rfl rfl ?_
  refine zw_virtual_i 5 0 0 [.ref 52, .int a] [(0, .ref 52), (1, .int a)] f149_2 rfl n149_218 k149_218_12 rfl (mb_52 x) (by decide +kernel) (Nat.le_of_ble_eq_true rfl) rfl rfl (by decide +kernel) (by decide +kernel) rfl (Nat.le_of_ble_eq_true rfl) rfl ?_
  refine zw_iload_n 1 f124_0 rfl rfl ?_
  refine zw_iconst 0 2 f124_1 rfl (by decide +kernel) ?_
  refine zw_aload_n 3 f124_2 rfl rfl ?_
  refine zw_getfield 6 f124_3 rfl g124_121_12 (mb_52 x) rfl ?_
  refine zw_iconst 1 7 f124_6 rfl (by decide +kernel) ?_
  refine zw_isub (-1) 8 f124_7 rfl (by decide +kernel) ?_
  refine zw_static_i 11 0 0 [.int a, .int 0, .int (-1)] [] [(0, .int a), (1, .int 0), (2, .int (-1))] f124_8 rfl k124_117_99 rfl (by decide +kernel) (Nat.le_of_ble_eq_true rfl) (Nat.le_of_ble_eq_true rfl) rfl rfl (by decide +kernel) (by decide +kernel) rfl (Nat.le_of_ble_eq_true rfl) rfl ?_
  refine zw_iload_n 1 f120_0 rfl rfl ?_
  refine zw_iload_n 2 f120_1 rfl rfl ?_
  refine zw_ic_lt 5 14 f120_2 (by decide +kernel) rfl (fun hc1 => ?_) (fun hc1 => ?_)
  · refine zw_iconst 0 15 f120_14 rfl (by decide +kernel) ?_
    refine zw_zreturn f120_15 r120 u120 (by decide +kernel) ⟨_, rfl, ?_⟩
    refine zw_zreturn f124_11 r124 u124 (by decide +kernel) ⟨_, rfl, ?_⟩
    refine zw_if_ne_f 8 14 f149_5 (by decide +kernel) rfl (by decide +kernel) ?_
    refine zw_aload_n 9 f149_8 rfl rfl ?_
    refine zw_iconst 1 10 f149_9 rfl (by decide +kernel) ?_
    refine zw_virtual_i 13 0 0 [.ref 52, .int 1] [(0, .ref 52), (1, .int 1)] f149_10 rfl n149_209 k149_209_12 rfl (mb_52 x) (by decide +kernel) (Nat.le_of_ble_eq_true rfl) rfl rfl (by decide +kernel) (by decide +kernel) rfl (Nat.le_of_ble_eq_true rfl) rfl ?_
    refine zw_aload_n 1 f121_0 rfl rfl ?_
    refine zw_iload_n 2 f121_1 rfl rfl ?_
    refine zw_putfield 5 f121_2 rfl g121_111_12 (mb_52 x) rfl (zg_lt rfl) (by decide +kernel) ?_
    refine zw_iconst (-1) 6 f121_5 rfl (by decide +kernel) ?_
    refine zw_ireturn f121_6 r121 u121 ⟨_, rfl, ?_⟩
    refine zw_ireturn f149_13 r149 u149 ?_
    exact rfl
  · refine zw_iload_n 6 f120_5 rfl rfl ?_
    refine zw_iload_n 7 f120_6 rfl rfl ?_
    refine zw_ic_gt_t 14 f120_7 (by decide +kernel) (zl_m1 hc1) ?_
    refine zw_iconst 0 15 f120_14 rfl (by decide +kernel) ?_
    refine zw_zreturn f120_15 r120 u120 (by decide +kernel) ⟨_, rfl, ?_⟩
    refine zw_zreturn f124_11 r124 u124 (by decide +kernel) ⟨_, rfl, ?_⟩
    refine zw_if_ne_f 8 14 f149_5 (by decide +kernel) rfl (by decide +kernel) ?_
    refine zw_aload_n 9 f149_8 rfl rfl ?_
    refine zw_iconst 1 10 f149_9 rfl (by decide +kernel) ?_
    refine zw_virtual_i 13 0 0 [.ref 52, .int 1] [(0, .ref 52), (1, .int 1)] f149_10 rfl n149_209 k149_209_12 rfl (mb_52 x) (by decide +kernel) (Nat.le_of_ble_eq_true rfl) rfl rfl (by decide +kernel) (by decide +kernel) rfl (Nat.le_of_ble_eq_true rfl) rfl ?_
    refine zw_aload_n 1 f121_0 rfl rfl ?_
    refine zw_iload_n 2 f121_1 rfl rfl ?_
    refine zw_putfield 5 f121_2 rfl g121_111_12 (mb_52 x) rfl (zg_lt rfl) (by decide +kernel) ?_
    refine zw_iconst (-1) 6 f121_5 rfl (by decide +kernel) ?_
    refine zw_ireturn f121_6 r121 u121 ⟨_, rfl, ?_⟩
    refine zw_ireturn f149_13 r149 u149 ?_
    exact rfl
set_option maxRecDepth 100000 in
set_option maxHeartbeats 0 in
theorem m_amount_r (ro : UInt32 → Nat × (Nat → Int32)) (x : Nat → va_E) (a b : Int32) : zWp ro 150 0 [(0, .ref 52), (1, .int a), (2, .int b)] [] (hMx x) 0 0 (fun r _ => r = some (.int (-1))) := by
  refine zw_aload_n 1 f150_0 rfl rfl ?_
  refine zw_iload_n 2 f150_1 rfl rfl ?_
  refine zw_virtual_i 5 0 0 [.ref 52, .int a] [(0, .ref 52), (1, .int a)] f150_2 rfl n150_218 k150_218_12 rfl (mb_52 x) (by decide +kernel) (Nat.le_of_ble_eq_true rfl) rfl rfl (by decide +kernel) (by decide +kernel) rfl (Nat.le_of_ble_eq_true rfl) rfl ?_
  refine zw_iload_n 1 f124_0 rfl rfl ?_
  refine zw_iconst 0 2 f124_1 rfl (by decide +kernel) ?_
  refine zw_aload_n 3 f124_2 rfl rfl ?_
  refine zw_getfield 6 f124_3 rfl g124_121_12 (mb_52 x) rfl ?_
  refine zw_iconst 1 7 f124_6 rfl (by decide +kernel) ?_
  refine zw_isub (-1) 8 f124_7 rfl (by decide +kernel) ?_
  refine zw_static_i 11 0 0 [.int a, .int 0, .int (-1)] [] [(0, .int a), (1, .int 0), (2, .int (-1))] f124_8 rfl k124_117_99 rfl (by decide +kernel) (Nat.le_of_ble_eq_true rfl) (Nat.le_of_ble_eq_true rfl) rfl rfl (by decide +kernel) (by decide +kernel) rfl (Nat.le_of_ble_eq_true rfl) rfl ?_
  refine zw_iload_n 1 f120_0 rfl rfl ?_
  refine zw_iload_n 2 f120_1 rfl rfl ?_
  refine zw_ic_lt 5 14 f120_2 (by decide +kernel) rfl (fun hc1 => ?_) (fun hc1 => ?_)
  · refine zw_iconst 0 15 f120_14 rfl (by decide +kernel) ?_
    refine zw_zreturn f120_15 r120 u120 (by decide +kernel) ⟨_, rfl, ?_⟩
    refine zw_zreturn f124_11 r124 u124 (by decide +kernel) ⟨_, rfl, ?_⟩
    refine zw_if_eq_t 18 f150_5 (by decide +kernel) (by decide +kernel) ?_
    refine zw_aload_n 19 f150_18 rfl rfl ?_
    refine zw_iconst 1 20 f150_19 rfl (by decide +kernel) ?_
    refine zw_virtual_i 23 0 0 [.ref 52, .int 1] [(0, .ref 52), (1, .int 1)] f150_20 rfl n150_209 k150_209_12 rfl (mb_52 x) (by decide +kernel) (Nat.le_of_ble_eq_true rfl) rfl rfl (by decide +kernel) (by decide +kernel) rfl (Nat.le_of_ble_eq_true rfl) rfl ?_
    refine zw_aload_n 1 f121_0 rfl rfl ?_
    refine zw_iload_n 2 f121_1 rfl rfl ?_
    refine zw_putfield 5 f121_2 rfl g121_111_12 (mb_52 x) rfl (zg_lt rfl) (by decide +kernel) ?_
    refine zw_iconst (-1) 6 f121_5 rfl (by decide +kernel) ?_
    refine zw_ireturn f121_6 r121 u121 ⟨_, rfl, ?_⟩
    refine zw_ireturn f150_23 r150 u150 ?_
    exact rfl
  · refine zw_iload_n 6 f120_5 rfl rfl ?_
    refine zw_iload_n 7 f120_6 rfl rfl ?_
    refine zw_ic_gt_t 14 f120_7 (by decide +kernel) (zl_m1 hc1) ?_
    refine zw_iconst 0 15 f120_14 rfl (by decide +kernel) ?_
    refine zw_zreturn f120_15 r120 u120 (by decide +kernel) ⟨_, rfl, ?_⟩
    refine zw_zreturn f124_11 r124 u124 (by decide +kernel) ⟨_, rfl, ?_⟩
    refine zw_if_eq_t 18 f150_5 (by decide +kernel) (by decide +kernel) ?_
    refine zw_aload_n 19 f150_18 rfl rfl ?_
    refine zw_iconst 1 20 f150_19 rfl (by decide +kernel) ?_
    refine zw_virtual_i 23 0 0 [.ref 52, .int 1] [(0, .ref 52), (1, .int 1)] f150_20 rfl n150_209 k150_209_12 rfl (mb_52 x) (by decide +kernel) (Nat.le_of_ble_eq_true rfl) rfl rfl (by decide +kernel) (by decide +kernel) rfl (Nat.le_of_ble_eq_true rfl) rfl ?_
    refine zw_aload_n 1 f121_0 rfl rfl ?_
    refine zw_iload_n 2 f121_1 rfl rfl ?_
    refine zw_putfield 5 f121_2 rfl g121_111_12 (mb_52 x) rfl (zg_lt rfl) (by decide +kernel) ?_
    refine zw_iconst (-1) 6 f121_5 rfl (by decide +kernel) ?_
    refine zw_ireturn f121_6 r121 u121 ⟨_, rfl, ?_⟩
    refine zw_ireturn f150_23 r150 u150 ?_
    exact rfl
set_option maxRecDepth 100000 in
set_option maxHeartbeats 0 in
theorem m_go_r1 (ro : UInt32 → Nat × (Nat → Int32)) (x : Nat → va_E) (a : Int32) (h1 : 10000 < a) : zWp ro 152 0 [(0, .ref 52), (1, .int a)] [] (hMx x) 0 0 (fun r _ => r = some (.int (-1))) := by
  refine zw_iload_n 1 f152_0 rfl rfl ?_
  refine zw_sipush 10000 4 f152_1 rfl (by decide +kernel) ?_
  refine zw_ic_gt_t 22 f152_4 (by decide +kernel) h1 ?_
  refine zw_aload_n 23 f152_22 rfl rfl ?_
  refine zw_iconst 1 24 f152_23 rfl (by decide +kernel) ?_
  refine zw_virtual_i 27 0 0 [.ref 52, .int 1] [(0, .ref 52), (1, .int 1)] f152_24 rfl n152_209 k152_209_12 rfl (mb_52 x) (by decide +kernel) (Nat.le_of_ble_eq_true rfl) rfl rfl (by decide +kernel) (by decide +kernel) rfl (Nat.le_of_ble_eq_true rfl) rfl ?_
  refine zw_aload_n 1 f121_0 rfl rfl ?_
  refine zw_iload_n 2 f121_1 rfl rfl ?_
  refine zw_putfield 5 f121_2 rfl g121_111_12 (mb_52 x) rfl (zg_lt rfl) (by decide +kernel) ?_
  refine zw_iconst (-1) 6 f121_5 rfl (by decide +kernel) ?_
  refine zw_ireturn f121_6 r121 u121 ⟨_, rfl, ?_⟩
  refine zw_ireturn f152_27 r152 u152 ?_
  exact rfl
set_option maxRecDepth 100000 in
set_option maxHeartbeats 0 in
theorem m_go_r2 (ro : UInt32 → Nat × (Nat → Int32)) (x : Nat → va_E) (a : Int32) (h1 : ¬ 10000 < a) (h2 : a < 0) : zWp ro 152 0 [(0, .ref 52), (1, .int a)] [] (hMx x) 0 0 (fun r _ => r = some (.int (-1))) := by
  refine zw_iload_n 1 f152_0 rfl rfl ?_
  refine zw_sipush 10000 4 f152_1 rfl (by decide +kernel) ?_
  refine zw_ic_gt_f 7 22 f152_4 (by decide +kernel) rfl h1 ?_
  refine zw_iload_n 8 f152_7 rfl rfl ?_
  refine zw_i2l a.toInt64 9 f152_8 rfl rfl ?_
  refine zw_aload_n 10 f152_9 rfl rfl ?_
  refine zw_getfield 13 f152_10 rfl g152_40_12 (mb_52 x) rfl ?_
  refine zw_lmul a.toInt64 14 f152_13 rfl (Int64.mul_one _) ?_
  refine zw_aload_n 15 f152_14 rfl rfl ?_
  refine zw_getfield 18 f152_15 rfl g152_172_12 (mb_52 x) rfl ?_
  refine zw_lcmp (-1) 19 f152_18 rfl (zl_neg h2).2 ?_
  refine zw_if_ge_f 22 28 f152_19 (by decide +kernel) rfl (by decide +kernel) ?_
  refine zw_aload_n 23 f152_22 rfl rfl ?_
  refine zw_iconst 1 24 f152_23 rfl (by decide +kernel) ?_
  refine zw_virtual_i 27 0 0 [.ref 52, .int 1] [(0, .ref 52), (1, .int 1)] f152_24 rfl n152_209 k152_209_12 rfl (mb_52 x) (by decide +kernel) (Nat.le_of_ble_eq_true rfl) rfl rfl (by decide +kernel) (by decide +kernel) rfl (Nat.le_of_ble_eq_true rfl) rfl ?_
  refine zw_aload_n 1 f121_0 rfl rfl ?_
  refine zw_iload_n 2 f121_1 rfl rfl ?_
  refine zw_putfield 5 f121_2 rfl g121_111_12 (mb_52 x) rfl (zg_lt rfl) (by decide +kernel) ?_
  refine zw_iconst (-1) 6 f121_5 rfl (by decide +kernel) ?_
  refine zw_ireturn f121_6 r121 u121 ⟨_, rfl, ?_⟩
  refine zw_ireturn f152_27 r152 u152 ?_
  exact rfl
