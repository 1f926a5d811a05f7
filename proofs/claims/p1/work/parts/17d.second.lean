set_option maxRecDepth 100000 in
set_option maxHeartbeats 0 in
theorem m_forge_w5 (ro : UInt32 → Nat × (Nat → Int32)) (x : Nat → va_E) (b c : Int32) (h1 : ¬ b < -100) (h2 : ¬ 100 < b) (h3 : ¬ c < -100) (h4 : ¬ 100 < c) (h5 : ¬ b = 0) : zWp ro 184 0 [(0, .ref 52), (1, .int 5), (2, .int b), (3, .int c)] [] (hMx x) 0 0 (fun r _ => r = some (.int (1000 / b))) := by
  refine zw_iload_n 1 f184_0 rfl rfl ?_
  refine zw_iconst 0 2 f184_1 rfl (by decide +kernel) ?_
  refine zw_bipush 6 4 f184_2 rfl (by decide +kernel) ?_
  refine zw_static_i 7 0 0 [.int 5, .int 0, .int 6] [] [(0, .int 5), (1, .int 0), (2, .int 6)] f184_4 rfl k184_117_99 rfl (by decide +kernel) (Nat.le_of_ble_eq_true rfl) (Nat.le_of_ble_eq_true rfl) rfl rfl (by decide +kernel) (by decide +kernel) rfl (Nat.le_of_ble_eq_true rfl) rfl ?_
  refine zw_iload_n 1 f120_0 rfl rfl ?_
  refine zw_iload_n 2 f120_1 rfl rfl ?_
  refine zw_ic_lt_f 5 14 f120_2 (by decide +kernel) rfl (by decide +kernel) ?_
  refine zw_iload_n 6 f120_5 rfl rfl ?_
  refine zw_iload_n 7 f120_6 rfl rfl ?_
  refine zw_ic_gt_f 10 14 f120_7 (by decide +kernel) rfl (by decide +kernel) ?_
  refine zw_iconst 1 11 f120_10 rfl (by decide +kernel) ?_
  refine zw_goto 15 f120_11 (by decide +kernel) ?_
  refine zw_zreturn f120_15 r120 u120 (by decide +kernel) ⟨_, rfl, ?_⟩
  refine zw_if_eq_f 10 32 f184_7 (by decide +kernel) rfl (by decide +kernel) ?_
  refine zw_iload_n 11 f184_10 rfl rfl ?_
  refine zw_bipush (-100) 13 f184_11 rfl (by decide +kernel) ?_
  refine zw_bipush 100 15 f184_13 rfl (by decide +kernel) ?_
  refine zw_static_i 18 0 0 [.int b, .int (-100), .int 100] [] [(0, .int b), (1, .int (-100)), (2, .int 100)] f184_15 rfl k184_117_99 rfl (by decide +kernel) (Nat.le_of_ble_eq_true rfl) (Nat.le_of_ble_eq_true rfl) rfl rfl (by decide +kernel) (by decide +kernel) rfl (Nat.le_of_ble_eq_true rfl) rfl ?_
  refine zw_iload_n 1 f120_0 rfl rfl ?_
  refine zw_iload_n 2 f120_1 rfl rfl ?_
  refine zw_ic_lt_f 5 14 f120_2 (by decide +kernel) rfl h1 ?_
  refine zw_iload_n 6 f120_5 rfl rfl ?_
  refine zw_iload_n 7 f120_6 rfl rfl ?_
  refine zw_ic_gt_f 10 14 f120_7 (by decide +kernel) rfl h2 ?_
  refine zw_iconst 1 11 f120_10 rfl (by decide +kernel) ?_
  refine zw_goto 15 f120_11 (by decide +kernel) ?_
  refine zw_zreturn f120_15 r120 u120 (by decide +kernel) ⟨_, rfl, ?_⟩
  refine zw_if_eq_f 21 32 f184_18 (by decide +kernel) rfl (by decide +kernel) ?_
  refine zw_iload_n 22 f184_21 rfl rfl ?_
  refine zw_bipush (-100) 24 f184_22 rfl (by decide +kernel) ?_
  refine zw_bipush 100 26 f184_24 rfl (by decide +kernel) ?_
  refine zw_static_i 29 0 0 [.int c, .int (-100), .int 100] [] [(0, .int c), (1, .int (-100)), (2, .int 100)] f184_26 rfl k184_117_99 rfl (by decide +kernel) (Nat.le_of_ble_eq_true rfl) (Nat.le_of_ble_eq_true rfl) rfl rfl (by decide +kernel) (by decide +kernel) rfl (Nat.le_of_ble_eq_true rfl) rfl ?_
  refine zw_iload_n 1 f120_0 rfl rfl ?_
  refine zw_iload_n 2 f120_1 rfl rfl ?_
  refine zw_ic_lt_f 5 14 f120_2 (by decide +kernel) rfl h3 ?_
  refine zw_iload_n 6 f120_5 rfl rfl ?_
  refine zw_iload_n 7 f120_6 rfl rfl ?_
  refine zw_ic_gt_f 10 14 f120_7 (by decide +kernel) rfl h4 ?_
  refine zw_iconst 1 11 f120_10 rfl (by decide +kernel) ?_
  refine zw_goto 15 f120_11 (by decide +kernel) ?_
  refine zw_zreturn f120_15 r120 u120 (by decide +kernel) ⟨_, rfl, ?_⟩
  refine zw_if_ne_t 38 f184_29 (by decide +kernel) (by decide +kernel) ?_
  refine zw_iload_n 39 f184_38 rfl rfl ?_
  refine zw_bipush 8 41 f184_39 rfl (by decide +kernel) ?_
  refine zw_static_i 44 0 0 [.int c, .int 8] [] [(0, .int c), (1, .int 8)] f184_41 rfl k184_313_99 rfl (by decide +kernel) (Nat.le_of_ble_eq_true rfl) (Nat.le_of_ble_eq_true rfl) rfl rfl (by decide +kernel) (by decide +kernel) rfl (Nat.le_of_ble_eq_true rfl) rfl ?_
  refine zw_iload_n 1 f182_0 rfl rfl ?_
  refine zw_iload_n 2 f182_1 rfl rfl ?_
  refine zw_irem (c - c / 8 * 8) 3 f182_2 rfl (by decide +kernel) rfl ?_
  refine zw_iload_n 4 f182_3 rfl rfl ?_
  refine zw_iadd ((c - c / 8 * 8) + 8) 5 f182_4 rfl rfl ?_
  refine zw_iload_n 6 f182_5 rfl rfl ?_
  refine zw_irem (((c - c / 8 * 8) + 8) - ((c - c / 8 * 8) + 8) / 8 * 8) 7 f182_6 rfl (by decide +kernel) rfl ?_
  refine zw_ireturn f182_7 r182 u182 ⟨_, rfl, ?_⟩
  refine zw_istore [(4, .int (((c - c / 8 * 8) + 8) - ((c - c / 8 * 8) + 8) / 8 * 8)), (0, .ref 52), (1, .int 5), (2, .int b), (3, .int c)] 46 f184_44 rfl (by decide +kernel) rfl ?_
  refine zw_iload_n 47 f184_46 rfl rfl ?_
  refine zw_table_i (off := 259) 306 f184_47 (by decide +kernel) (by decide +kernel) (by decide +kernel) ?_
  refine zw_iload_n 307 f184_306 rfl rfl ?_
  refine zw_if_ne_t 319 f184_307 (by decide +kernel) h5 ?_
  refine zw_aload_n 320 f184_319 rfl rfl ?_
  refine zw_sipush 1000 323 f184_320 rfl (by decide +kernel) ?_
  refine zw_iload_n 324 f184_323 rfl rfl ?_
  refine zw_idiv (1000 / b) 325 f184_324 rfl h5 rfl ?_
  refine zw_virtual_i 328 0 0 [.ref 52, .int (1000 / b)] [(0, .ref 52), (1, .int (1000 / b))] f184_325 rfl n184_205 k184_205_12 rfl (mb_52 x) (by decide +kernel) (Nat.le_of_ble_eq_true rfl) rfl rfl (by decide +kernel) (by decide +kernel) rfl (Nat.le_of_ble_eq_true rfl) rfl ?_
  refine zw_aload_n 1 f122_0 rfl rfl ?_
  refine zw_iconst 0 2 f122_1 rfl (by decide +kernel) ?_
  refine zw_putfieldS 5 f122_2 rfl g122_111_12 (mb_52 x) rfl rfl (by decide +kernel) ?_
  refine zw_iload_n 6 f122_5 rfl rfl ?_
  refine zw_ireturn f122_6 r122 u122 ⟨_, rfl, ?_⟩
  refine zw_ireturn f184_328 r184 u184 ?_
  exact rfl
set_option maxRecDepth 100000 in
set_option maxHeartbeats 0 in
theorem m_forge_w6e (ro : UInt32 → Nat × (Nat → Int32)) (x : Nat → va_E) (b c : Int32) (h1 : ¬ b < -100) (h2 : ¬ 100 < b) (h3 : ¬ c < -100) (h4 : ¬ 100 < c) (h5 : b - b / 2 * 2 = 0) (h6 : b &&& 1 = 0) : zWp ro 184 0 [(0, .ref 52), (1, .int 6), (2, .int b), (3, .int c)] [] (hMx x) 0 0 (fun r _ => r = some (.int (-1))) := by
  refine zw_iload_n 1 f184_0 rfl rfl ?_
  refine zw_iconst 0 2 f184_1 rfl (by decide +kernel) ?_
  refine zw_bipush 6 4 f184_2 rfl (by decide +kernel) ?_
  refine zw_static_i 7 0 0 [.int 6, .int 0, .int 6] [] [(0, .int 6), (1, .int 0), (2, .int 6)] f184_4 rfl k184_117_99 rfl (by decide +kernel) (Nat.le_of_ble_eq_true rfl) (Nat.le_of_ble_eq_true rfl) rfl rfl (by decide +kernel) (by decide +kernel) rfl (Nat.le_of_ble_eq_true rfl) rfl ?_
  refine zw_iload_n 1 f120_0 rfl rfl ?_
  refine zw_iload_n 2 f120_1 rfl rfl ?_
  refine zw_ic_lt_f 5 14 f120_2 (by decide +kernel) rfl (by decide +kernel) ?_
  refine zw_iload_n 6 f120_5 rfl rfl ?_
  refine zw_iload_n 7 f120_6 rfl rfl ?_
  refine zw_ic_gt_f 10 14 f120_7 (by decide +kernel) rfl (by decide +kernel) ?_
  refine zw_iconst 1 11 f120_10 rfl (by decide +kernel) ?_
  refine zw_goto 15 f120_11 (by decide +kernel) ?_
  refine zw_zreturn f120_15 r120 u120 (by decide +kernel) ⟨_, rfl, ?_⟩
  refine zw_if_eq_f 10 32 f184_7 (by decide +kernel) rfl (by decide +kernel) ?_
  refine zw_iload_n 11 f184_10 rfl rfl ?_
  refine zw_bipush (-100) 13 f184_11 rfl (by decide +kernel) ?_
  refine zw_bipush 100 15 f184_13 rfl (by decide +kernel) ?_
  refine zw_static_i 18 0 0 [.int b, .int (-100), .int 100] [] [(0, .int b), (1, .int (-100)), (2, .int 100)] f184_15 rfl k184_117_99 rfl (by decide +kernel) (Nat.le_of_ble_eq_true rfl) (Nat.le_of_ble_eq_true rfl) rfl rfl (by decide +kernel) (by decide +kernel) rfl (Nat.le_of_ble_eq_true rfl) rfl ?_
  refine zw_iload_n 1 f120_0 rfl rfl ?_
  refine zw_iload_n 2 f120_1 rfl rfl ?_
  refine zw_ic_lt_f 5 14 f120_2 (by decide +kernel) rfl h1 ?_
  refine zw_iload_n 6 f120_5 rfl rfl ?_
  refine zw_iload_n 7 f120_6 rfl rfl ?_
  refine zw_ic_gt_f 10 14 f120_7 (by decide +kernel) rfl h2 ?_
  refine zw_iconst 1 11 f120_10 rfl (by decide +kernel) ?_
  refine zw_goto 15 f120_11 (by decide +kernel) ?_
  refine zw_zreturn f120_15 r120 u120 (by decide +kernel) ⟨_, rfl, ?_⟩
  refine zw_if_eq_f 21 32 f184_18 (by decide +kernel) rfl (by decide +kernel) ?_
  refine zw_iload_n 22 f184_21 rfl rfl ?_
  refine zw_bipush (-100) 24 f184_22 rfl (by decide +kernel) ?_
  refine zw_bipush 100 26 f184_24 rfl (by decide +kernel) ?_
  refine zw_static_i 29 0 0 [.int c, .int (-100), .int 100] [] [(0, .int c), (1, .int (-100)), (2, .int 100)] f184_26 rfl k184_117_99 rfl (by decide +kernel) (Nat.le_of_ble_eq_true rfl) (Nat.le_of_ble_eq_true rfl) rfl rfl (by decide +kernel) (by decide +kernel) rfl (Nat.le_of_ble_eq_true rfl) rfl ?_
  refine zw_iload_n 1 f120_0 rfl rfl ?_
  refine zw_iload_n 2 f120_1 rfl rfl ?_
  refine zw_ic_lt_f 5 14 f120_2 (by decide +kernel) rfl h3 ?_
  refine zw_iload_n 6 f120_5 rfl rfl ?_
  refine zw_iload_n 7 f120_6 rfl rfl ?_
  refine zw_ic_gt_f 10 14 f120_7 (by decide +kernel) rfl h4 ?_
  refine zw_iconst 1 11 f120_10 rfl (by decide +kernel) ?_
  refine zw_goto 15 f120_11 (by decide +kernel) ?_
  refine zw_zreturn f120_15 r120 u120 (by decide +kernel) ⟨_, rfl, ?_⟩
  refine zw_if_ne_t 38 f184_29 (by decide +kernel) (by decide +kernel) ?_
  refine zw_iload_n 39 f184_38 rfl rfl ?_
  refine zw_bipush 8 41 f184_39 rfl (by decide +kernel) ?_
  refine zw_static_i 44 0 0 [.int c, .int 8] [] [(0, .int c), (1, .int 8)] f184_41 rfl k184_313_99 rfl (by decide +kernel) (Nat.le_of_ble_eq_true rfl) (Nat.le_of_ble_eq_true rfl) rfl rfl (by decide +kernel) (by decide +kernel) rfl (Nat.le_of_ble_eq_true rfl) rfl ?_
  refine zw_iload_n 1 f182_0 rfl rfl ?_
  refine zw_iload_n 2 f182_1 rfl rfl ?_
  refine zw_irem (c - c / 8 * 8) 3 f182_2 rfl (by decide +kernel) rfl ?_
  refine zw_iload_n 4 f182_3 rfl rfl ?_
  refine zw_iadd ((c - c / 8 * 8) + 8) 5 f182_4 rfl rfl ?_
  refine zw_iload_n 6 f182_5 rfl rfl ?_
  refine zw_irem (((c - c / 8 * 8) + 8) - ((c - c / 8 * 8) + 8) / 8 * 8) 7 f182_6 rfl (by decide +kernel) rfl ?_
  refine zw_ireturn f182_7 r182 u182 ⟨_, rfl, ?_⟩
  refine zw_istore [(4, .int (((c - c / 8 * 8) + 8) - ((c - c / 8 * 8) + 8) / 8 * 8)), (0, .ref 52), (1, .int 6), (2, .int b), (3, .int c)] 46 f184_44 rfl (by decide +kernel) rfl ?_
  refine zw_iload_n 47 f184_46 rfl rfl ?_
  refine zw_table_o 329 f184_47 (by decide +kernel) (by decide +kernel) ?_
  refine zw_iload_n 330 f184_329 rfl rfl ?_
  refine zw_iconst 1 331 f184_330 rfl (by decide +kernel) ?_
  refine zw_iand 0 332 f184_331 rfl h6 ?_
  refine zw_if_ne_f 335 344 f184_332 (by decide +kernel) rfl (by decide +kernel) ?_
  refine zw_aload_n 336 f184_335 rfl rfl ?_
  refine zw_bipush 10 338 f184_336 rfl (by decide +kernel) ?_
  refine zw_virtual_i 341 0 0 [.ref 52, .int 10] [(0, .ref 52), (1, .int 10)] f184_338 rfl n184_209 k184_209_12 rfl (mb_52 x) (by decide +kernel) (Nat.le_of_ble_eq_true rfl) rfl rfl (by decide +kernel) (by decide +kernel) rfl (Nat.le_of_ble_eq_true rfl) rfl ?_
  refine zw_aload_n 1 f121_0 rfl rfl ?_
  refine zw_iload_n 2 f121_1 rfl rfl ?_
  refine zw_putfield 5 f121_2 rfl g121_111_12 (mb_52 x) rfl (zg_lt rfl) (by decide +kernel) ?_
  refine zw_iconst (-1) 6 f121_5 rfl (by decide +kernel) ?_
  refine zw_ireturn f121_6 r121 u121 ⟨_, rfl, ?_⟩
  refine zw_goto 349 f184_341 (by decide +kernel) ?_
  refine zw_ireturn f184_349 r184 u184 ?_
  exact rfl
set_option maxRecDepth 100000 in
set_option maxHeartbeats 0 in
theorem m_forge_w6p (ro : UInt32 → Nat × (Nat → Int32)) (x : Nat → va_E) (b c : Int32) (h1 : ¬ b < -100) (h2 : ¬ 100 < b) (h3 : ¬ c < -100) (h4 : ¬ 100 < c) (h5 : b - b / 2 * 2 = 1) (h6 : b &&& 1 = 1) : zWp ro 184 0 [(0, .ref 52), (1, .int 6), (2, .int b), (3, .int c)] [] (hMx x) 0 0 (fun r _ => r = some (.int 1)) := by
  refine zw_iload_n 1 f184_0 rfl rfl ?_
  refine zw_iconst 0 2 f184_1 rfl (by decide +kernel) ?_
  refine zw_bipush 6 4 f184_2 rfl (by decide +kernel) ?_
  refine zw_static_i 7 0 0 [.int 6, .int 0, .int 6] [] [(0, .int 6), (1, .int 0), (2, .int 6)] f184_4 rfl k184_117_99 rfl (by decide +kernel) (Nat.le_of_ble_eq_true rfl) (Nat.le_of_ble_eq_true rfl) rfl rfl (by decide +kernel) (by decide +kernel) rfl (Nat.le_of_ble_eq_true rfl) rfl ?_
  refine zw_iload_n 1 f120_0 rfl rfl ?_
  refine zw_iload_n 2 f120_1 rfl rfl ?_
  refine zw_ic_lt_f 5 14 f120_2 (by decide +kernel) rfl (by decide +kernel) ?_
  refine zw_iload_n 6 f120_5 rfl rfl ?_
  refine zw_iload_n 7 f120_6 rfl rfl ?_
  refine zw_ic_gt_f 10 14 f120_7 (by decide +kernel) rfl (by decide +kernel) ?_
  refine zw_iconst 1 11 f120_10 rfl (by decide +kernel) ?_
  refine zw_goto 15 f120_11 (by decide +kernel) ?_
  refine zw_zreturn f120_15 r120 u120 (by decide +kernel) ⟨_, rfl, ?_⟩
  refine zw_if_eq_f 10 32 f184_7 (by decide +kernel) rfl (by decide +kernel) ?_
  refine zw_iload_n 11 f184_10 rfl rfl ?_
  refine zw_bipush (-100) 13 f184_11 rfl (by decide +kernel) ?_
  refine zw_bipush 100 15 f184_13 rfl (by decide +kernel) ?_
  refine zw_static_i 18 0 0 [.int b, .int (-100), .int 100] [] [(0, .int b), (1, .int (-100)), (2, .int 100)] f184_15 rfl k184_117_99 rfl (by decide +kernel) (Nat.le_of_ble_eq_true rfl) (Nat.le_of_ble_eq_true rfl) rfl rfl (by decide +kernel) (by decide +kernel) rfl (Nat.le_of_ble_eq_true rfl) rfl ?_
  refine zw_iload_n 1 f120_0 rfl rfl ?_
  refine zw_iload_n 2 f120_1 rfl rfl ?_
  refine zw_ic_lt_f 5 14 f120_2 (by decide +kernel) rfl h1 ?_
  refine zw_iload_n 6 f120_5 rfl rfl ?_
  refine zw_iload_n 7 f120_6 rfl rfl ?_
  refine zw_ic_gt_f 10 14 f120_7 (by decide +kernel) rfl h2 ?_
  refine zw_iconst 1 11 f120_10 rfl (by decide +kernel) ?_
  refine zw_goto 15 f120_11 (by decide +kernel) ?_
  refine zw_zreturn f120_15 r120 u120 (by decide +kernel) ⟨_, rfl, ?_⟩
  refine zw_if_eq_f 21 32 f184_18 (by decide +kernel) rfl (by decide +kernel) ?_
  refine zw_iload_n 22 f184_21 rfl rfl ?_
  refine zw_bipush (-100) 24 f184_22 rfl (by decide +kernel) ?_
  refine zw_bipush 100 26 f184_24 rfl (by decide +kernel) ?_
  refine zw_static_i 29 0 0 [.int c, .int (-100), .int 100] [] [(0, .int c), (1, .int (-100)), (2, .int 100)] f184_26 rfl k184_117_99 rfl (by decide +kernel) (Nat.le_of_ble_eq_true rfl) (Nat.le_of_ble_eq_true rfl) rfl rfl (by decide +kernel) (by decide +kernel) rfl (Nat.le_of_ble_eq_true rfl) rfl ?_
  refine zw_iload_n 1 f120_0 rfl rfl ?_
  refine zw_iload_n 2 f120_1 rfl rfl ?_
  refine zw_ic_lt_f 5 14 f120_2 (by decide +kernel) rfl h3 ?_
  refine zw_iload_n 6 f120_5 rfl rfl ?_
  refine zw_iload_n 7 f120_6 rfl rfl ?_
  refine zw_ic_gt_f 10 14 f120_7 (by decide +kernel) rfl h4 ?_
  refine zw_iconst 1 11 f120_10 rfl (by decide +kernel) ?_
  refine zw_goto 15 f120_11 (by decide +kernel) ?_
  refine zw_zreturn f120_15 r120 u120 (by decide +kernel) ⟨_, rfl, ?_⟩
  refine zw_if_ne_t 38 f184_29 (by decide +kernel) (by decide +kernel) ?_
  refine zw_iload_n 39 f184_38 rfl rfl ?_
  refine zw_bipush 8 41 f184_39 rfl (by decide +kernel) ?_
  refine zw_static_i 44 0 0 [.int c, .int 8] [] [(0, .int c), (1, .int 8)] f184_41 rfl k184_313_99 rfl (by decide +kernel) (Nat.le_of_ble_eq_true rfl) (Nat.le_of_ble_eq_true rfl) rfl rfl (by decide +kernel) (by decide +kernel) rfl (Nat.le_of_ble_eq_true rfl) rfl ?_
  refine zw_iload_n 1 f182_0 rfl rfl ?_
  refine zw_iload_n 2 f182_1 rfl rfl ?_
  refine zw_irem (c - c / 8 * 8) 3 f182_2 rfl (by decide +kernel) rfl ?_
  refine zw_iload_n 4 f182_3 rfl rfl ?_
  refine zw_iadd ((c - c / 8 * 8) + 8) 5 f182_4 rfl rfl ?_
  refine zw_iload_n 6 f182_5 rfl rfl ?_
  refine zw_irem (((c - c / 8 * 8) + 8) - ((c - c / 8 * 8) + 8) / 8 * 8) 7 f182_6 rfl (by decide +kernel) rfl ?_
  refine zw_ireturn f182_7 r182 u182 ⟨_, rfl, ?_⟩
  refine zw_istore [(4, .int (((c - c / 8 * 8) + 8) - ((c - c / 8 * 8) + 8) / 8 * 8)), (0, .ref 52), (1, .int 6), (2, .int b), (3, .int c)] 46 f184_44 rfl (by decide +kernel) rfl ?_
  refine zw_iload_n 47 f184_46 rfl rfl ?_
  refine zw_table_o 329 f184_47 (by decide +kernel) (by decide +kernel) ?_
  refine zw_iload_n 330 f184_329 rfl rfl ?_
  refine zw_iconst 1 331 f184_330 rfl (by decide +kernel) ?_
  refine zw_iand 1 332 f184_331 rfl h6 ?_
  refine zw_if_ne_t 344 f184_332 (by decide +kernel) (by decide +kernel) ?_
  refine zw_aload_n 345 f184_344 rfl rfl ?_
  refine zw_iconst 1 346 f184_345 rfl (by decide +kernel) ?_
  refine zw_virtual_i 349 0 0 [.ref 52, .int 1] [(0, .ref 52), (1, .int 1)] f184_346 rfl n184_205 k184_205_12 rfl (mb_52 x) (by decide +kernel) (Nat.le_of_ble_eq_true rfl) rfl rfl (by decide +kernel) (by decide +kernel) rfl (Nat.le_of_ble_eq_true rfl) rfl ?_
  refine zw_aload_n 1 f122_0 rfl rfl ?_
  refine zw_iconst 0 2 f122_1 rfl (by decide +kernel) ?_
  refine zw_putfieldS 5 f122_2 rfl g122_111_12 (mb_52 x) rfl rfl (by decide +kernel) ?_
  refine zw_iload_n 6 f122_5 rfl rfl ?_
  refine zw_ireturn f122_6 r122 u122 ⟨_, rfl, ?_⟩
  refine zw_ireturn f184_349 r184 u184 ?_
  exact rfl
set_option maxRecDepth 100000 in
set_option maxHeartbeats 0 in
theorem m_forge_w6m (ro : UInt32 → Nat × (Nat → Int32)) (x : Nat → va_E) (b c : Int32) (h1 : ¬ b < -100) (h2 : ¬ 100 < b) (h3 : ¬ c < -100) (h4 : ¬ 100 < c) (h5 : b - b / 2 * 2 = -1) (h6 : b &&& 1 = 1) : zWp ro 184 0 [(0, .ref 52), (1, .int 6), (2, .int b), (3, .int c)] [] (hMx x) 0 0 (fun r _ => r = some (.int 1)) := by
  refine zw_iload_n 1 f184_0 rfl rfl ?_
  refine zw_iconst 0 2 f184_1 rfl (by decide +kernel) ?_
  refine zw_bipush 6 4 f184_2 rfl (by decide +kernel) ?_
  refine zw_static_i 7 0 0 [.int 6, .int 0, .int 6] [] [(0, .int 6), (1, .int 0), (2, .int 6)] f184_4 rfl k184_117_99 rfl (by decide +kernel) (Nat.le_of_ble_eq_true rfl) (Nat.le_of_ble_eq_true rfl) rfl rfl (by decide +kernel) (by decide +kernel) rfl (Nat.le_of_ble_eq_true rfl) rfl ?_
  refine zw_iload_n 1 f120_0 rfl rfl ?_
  refine zw_iload_n 2 f120_1 rfl rfl ?_
  refine zw_ic_lt_f 5 14 f120_2 (by decide +kernel) rfl (by decide +kernel) ?_
  refine zw_iload_n 6 f120_5 rfl rfl ?_
  refine zw_iload_n 7 f120_6 rfl rfl ?_
  refine zw_ic_gt_f 10 14 f120_7 (by decide +kernel) rfl (by decide +kernel) ?_
  refine zw_iconst 1 11 f120_10 rfl (by decide +kernel) ?_
  refine zw_goto 15 f120_11 (by decide +kernel) ?_
  refine zw_zreturn f120_15 r120 u120 (by decide +kernel) ⟨_, rfl, ?_⟩
  refine zw_if_eq_f 10 32 f184_7 (by decide +kernel) rfl (by decide +kernel) ?_
  refine zw_iload_n 11 f184_10 rfl rfl ?_
  refine zw_bipush (-100) 13 f184_11 rfl (by decide +kernel) ?_
  refine zw_bipush 100 15 f184_13 rfl (by decide +kernel) ?_
  refine zw_static_i 18 0 0 [.int b, .int (-100), .int 100] [] [(0, .int b), (1, .int (-100)), (2, .int 100)] f184_15 rfl k184_117_99 rfl (by decide +kernel) (Nat.le_of_ble_eq_true rfl) (Nat.le_of_ble_eq_true rfl) rfl rfl (by decide +kernel) (by decide +kernel) rfl (Nat.le_of_ble_eq_true rfl) rfl ?_
  refine zw_iload_n 1 f120_0 rfl rfl ?_
  refine zw_iload_n 2 f120_1 rfl rfl ?_
  refine zw_ic_lt_f 5 14 f120_2 (by decide +kernel) rfl h1 ?_
  refine zw_iload_n 6 f120_5 rfl rfl ?_
  refine zw_iload_n 7 f120_6 rfl rfl ?_
  refine zw_ic_gt_f 10 14 f120_7 (by decide +kernel) rfl h2 ?_
  refine zw_iconst 1 11 f120_10 rfl (by decide +kernel) ?_
  refine zw_goto 15 f120_11 (by decide +kernel) ?_
  refine zw_zreturn f120_15 r120 u120 (by decide +kernel) ⟨_, rfl, ?_⟩
  refine zw_if_eq_f 21 32 f184_18 (by decide +kernel) rfl (by decide +kernel) ?_
  refine zw_iload_n 22 f184_21 rfl rfl ?_
  refine zw_bipush (-100) 24 f184_22 rfl (by decide +kernel) ?_
  refine zw_bipush 100 26 f184_24 rfl (by decide +kernel) ?_
  refine zw_static_i 29 0 0 [.int c, .int (-100), .int 100] [] [(0, .int c), (1, .int (-100)), (2, .int 100)] f184_26 rfl k184_117_99 rfl (by decide +kernel) (Nat.le_of_ble_eq_true rfl) (Nat.le_of_ble_eq_true rfl) rfl rfl (by decide +kernel) (by decide +kernel) rfl (Nat.le_of_ble_eq_true rfl) rfl ?_
  refine zw_iload_n 1 f120_0 rfl rfl ?_
  refine zw_iload_n 2 f120_1 rfl rfl ?_
  refine zw_ic_lt_f 5 14 f120_2 (by decide +kernel) rfl h3 ?_
  refine zw_iload_n 6 f120_5 rfl rfl ?_
  refine zw_iload_n 7 f120_6 rfl rfl ?_
  refine zw_ic_gt_f 10 14 f120_7 (by decide +kernel) rfl h4 ?_
  refine zw_iconst 1 11 f120_10 rfl (by decide +kernel) ?_
  refine zw_goto 15 f120_11 (by decide +kernel) ?_
  refine zw_zreturn f120_15 r120 u120 (by decide +kernel) ⟨_, rfl, ?_⟩
  refine zw_if_ne_t 38 f184_29 (by decide +kernel) (by decide +kernel) ?_
  refine zw_iload_n 39 f184_38 rfl rfl ?_
  refine zw_bipush 8 41 f184_39 rfl (by decide +kernel) ?_
  refine zw_static_i 44 0 0 [.int c, .int 8] [] [(0, .int c), (1, .int 8)] f184_41 rfl k184_313_99 rfl (by decide +kernel) (Nat.le_of_ble_eq_true rfl) (Nat.le_of_ble_eq_true rfl) rfl rfl (by decide +kernel) (by decide +kernel) rfl (Nat.le_of_ble_eq_true rfl) rfl ?_
  refine zw_iload_n 1 f182_0 rfl rfl ?_
  refine zw_iload_n 2 f182_1 rfl rfl ?_
  refine zw_irem (c - c / 8 * 8) 3 f182_2 rfl (by decide +kernel) rfl ?_
  refine zw_iload_n 4 f182_3 rfl rfl ?_
  refine zw_iadd ((c - c / 8 * 8) + 8) 5 f182_4 rfl rfl ?_
  refine zw_iload_n 6 f182_5 rfl rfl ?_
  refine zw_irem (((c - c / 8 * 8) + 8) - ((c - c / 8 * 8) + 8) / 8 * 8) 7 f182_6 rfl (by decide +kernel) rfl ?_
  refine zw_ireturn f182_7 r182 u182 ⟨_, rfl, ?_⟩
  refine zw_istore [(4, .int (((c - c / 8 * 8) + 8) - ((c - c / 8 * 8) + 8) / 8 * 8)), (0, .ref 52), (1, .int 6), (2, .int b), (3, .int c)] 46 f184_44 rfl (by decide +kernel) rfl ?_
  refine zw_iload_n 47 f184_46 rfl rfl ?_
  refine zw_table_o 329 f184_47 (by decide +kernel) (by decide +kernel) ?_
  refine zw_iload_n 330 f184_329 rfl rfl ?_
  refine zw_iconst 1 331 f184_330 rfl (by decide +kernel) ?_
  refine zw_iand 1 332 f184_331 rfl h6 ?_
  refine zw_if_ne_t 344 f184_332 (by decide +kernel) (by decide +kernel) ?_
  refine zw_aload_n 345 f184_344 rfl rfl ?_
  refine zw_iconst 1 346 f184_345 rfl (by decide +kernel) ?_
  refine zw_virtual_i 349 0 0 [.ref 52, .int 1] [(0, .ref 52), (1, .int 1)] f184_346 rfl n184_205 k184_205_12 rfl (mb_52 x) (by decide +kernel) (Nat.le_of_ble_eq_true rfl) rfl rfl (by decide +kernel) (by decide +kernel) rfl (Nat.le_of_ble_eq_true rfl) rfl ?_
  refine zw_aload_n 1 f122_0 rfl rfl ?_
  refine zw_iconst 0 2 f122_1 rfl (by decide +kernel) ?_
  refine zw_putfieldS 5 f122_2 rfl g122_111_12 (mb_52 x) rfl rfl (by decide +kernel) ?_
  refine zw_iload_n 6 f122_5 rfl rfl ?_
  refine zw_ireturn f122_6 r122 u122 ⟨_, rfl, ?_⟩
  refine zw_ireturn f184_349 r184 u184 ?_
  exact rfl
set_option maxRecDepth 100000 in
set_option maxHeartbeats 0 in
theorem m_status_r (ro : UInt32 → Nat × (Nat → Int32)) (x : Nat → va_E) : zWp ro 185 0 [(0, .ref 52)] [] (hMx x) 0 0 (fun r _ => r = some (.int 0)) := by
  refine zw_aload_n 1 f185_0 rfl rfl ?_
  refine zw_getfield 4 f185_1 rfl g185_111_12 (mb_52 x) rfl ?_
  refine zw_ireturn f185_4 r185 u185 ?_
  exact rfl
